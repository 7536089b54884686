/-! whole numbers: every int is jI z, every long jL z, z : Int -/
def jI (z : Int) : Int32 := Int32.ofInt z
def jL (z : Int) : Int64 := Int64.ofInt z
def aI (f : Int → Int) : Nat → Int32 := fun k => jI (f (k : Int))
def aL (f : Int → Int) : Nat → Int64 := fun k => jL (f (k : Int))
def aW (f : Int → Int64) : Nat → Int64 := fun k => f (k : Int)
def upI (f : Int → Int) (i z : Int) : Int → Int := fun j => if j = i then z else f j
def upW (f : Int → Int64) (i : Int) (z : Int64) : Int → Int64 := fun j => if j = i then z else f j
abbrev rI (z : Int) : Prop := -2147483648 ≤ z ∧ z ≤ 2147483647
abbrev rL (z : Int) : Prop := -9223372036854775808 ≤ z ∧ z ≤ 9223372036854775807
theorem upI_eq (f : Int → Int) (i z : Int) : upI f i z i = z := by simp [upI]
theorem upI_ne (f : Int → Int) {i j : Int} (z : Int) (h : j ≠ i) : upI f i z j = f j := by simp [upI, h]
theorem upI_ap (f : Int → Int) (i z j : Int) : upI f i z j = if j = i then z else f j := rfl
theorem upW_eq (f : Int → Int64) (i : Int) (z : Int64) : upW f i z i = z := by simp [upW]
theorem upW_ne (f : Int → Int64) {i j : Int} (z : Int64) (h : j ≠ i) : upW f i z j = f j := by simp [upW, h]
theorem upW_ap (f : Int → Int64) (i : Int) (z : Int64) (j : Int) : upW f i z j = if j = i then z else f j := rfl
theorem jI_ti {z : Int} (h : rI z) : (jI z).toInt = z := Int32.toInt_ofInt_of_le h.1 (Int.lt_add_one_of_le h.2)
theorem jL_ti {z : Int} (h : rL z) : (jL z).toInt = z := Int64.toInt_ofInt_of_le h.1 (Int.lt_add_one_of_le h.2)
theorem jI_as (x : Int32) : jI x.toInt = x := Int32.ofInt_toInt x
theorem jL_as (x : Int64) : jL x.toInt = x := Int64.ofInt_toInt x
theorem rI_of (x : Int32) : rI x.toInt := ⟨x.le_toInt, Int.le_of_lt_add_one x.toInt_lt⟩
theorem rL_of (x : Int64) : rL x.toInt := ⟨x.le_toInt, Int.le_of_lt_add_one x.toInt_lt⟩
theorem jI_inj {a b : Int} (ha : rI a) (hb : rI b) : jI a = jI b ↔ a = b := ⟨fun h => by have := congrArg Int32.toInt h; rwa [jI_ti ha, jI_ti hb] at this, fun h => by rw [h]⟩
theorem jL_inj {a b : Int} (ha : rL a) (hb : rL b) : jL a = jL b ↔ a = b := ⟨fun h => by have := congrArg Int64.toInt h; rwa [jL_ti ha, jL_ti hb] at this, fun h => by rw [h]⟩
theorem jI_lt {a b : Int} (ha : rI a) (hb : rI b) : jI a < jI b ↔ a < b := by rw [Int32.lt_iff_toInt_lt, jI_ti ha, jI_ti hb]
theorem jI_le {a b : Int} (ha : rI a) (hb : rI b) : jI a ≤ jI b ↔ a ≤ b := by rw [Int32.le_iff_toInt_le, jI_ti ha, jI_ti hb]
theorem jL_lt {a b : Int} (ha : rL a) (hb : rL b) : jL a < jL b ↔ a < b := by rw [Int64.lt_iff_toInt_lt, jL_ti ha, jL_ti hb]
theorem jI_add (a b : Int) : jI a + jI b = jI (a + b) := (Int32.ofInt_add a b).symm
theorem jI_sub (a b : Int) : jI a - jI b = jI (a - b) := (Int32.ofInt_sub a b).symm
theorem jI_mul (a b : Int) : jI a * jI b = jI (a * b) := (Int32.ofInt_mul a b).symm
theorem jI_neg (a : Int) : -jI a = jI (-a) := (Int32.ofInt_neg a).symm
theorem jL_add (a b : Int) : jL a + jL b = jL (a + b) := (Int64.ofInt_add a b).symm
theorem jL_sub (a b : Int) : jL a - jL b = jL (a - b) := (Int64.ofInt_sub a b).symm
theorem jL_mul (a b : Int) : jL a * jL b = jL (a * b) := (Int64.ofInt_mul a b).symm
theorem jI_div {a b : Int} (ha : rI a) (hb : rI b) : jI a / jI b = jI (a.tdiv b) := (Int32.ofInt_tdiv ha.1 ha.2 hb.1 hb.2).symm
theorem jL_div {a b : Int} (ha : rL a) (hb : rL b) : jL a / jL b = jL (a.tdiv b) := (Int64.ofInt_tdiv ha.1 ha.2 hb.1 hb.2).symm
theorem jI_l {a : Int} (ha : rI a) : (jI a).toInt64 = jL a := Int32.toInt64_ofInt ha.1 ha.2
theorem jL_i (a : Int) : (jL a).toInt32 = jI a := Int64.toInt32_ofInt
theorem jI_z : (0 : Int32) = jI 0 := rfl
theorem rI_0 : rI 0 := ⟨by decide, by decide⟩
theorem jI_nat (n : Nat) : Int32.ofNat n = jI (n : Int) := (Int32.ofInt_eq_ofNat).symm
theorem jI_in {z : Int} {n : Nat} (h : 0 ≤ z ∧ z < (n : Int)) (hn : n < 2147483648) : vp_in (jI z) n := by
  have hr : rI z := ⟨by omega, by omega⟩
  rw [vp_in_iff, jI_ti hr]
  exact h
theorem jI_cl {z : Int} {n : Nat} (h : 0 ≤ z ∧ z < (n : Int)) (hn : n < 2147483648) : (((jI z).toNatClampNeg : Nat) : Int) = z := by
  have hr : rI z := ⟨by omega, by omega⟩
  show (((jI z).toInt.toNat : Nat) : Int) = z
  rw [jI_ti hr]
  omega
theorem aI_at {f : Int → Int} {z : Int} {n : Nat} (h : 0 ≤ z ∧ z < (n : Int)) (hn : n < 2147483648) : aI f (jI z).toNatClampNeg = jI (f z) := by
  show jI (f _) = _
  rw [jI_cl h hn]
theorem aL_at {f : Int → Int} {z : Int} {n : Nat} (h : 0 ≤ z ∧ z < (n : Int)) (hn : n < 2147483648) : aL f (jI z).toNatClampNeg = jL (f z) := by
  show jL (f _) = _
  rw [jI_cl h hn]
theorem aW_at {f : Int → Int64} {z : Int} {n : Nat} (h : 0 ≤ z ∧ z < (n : Int)) (hn : n < 2147483648) : aW f (jI z).toNatClampNeg = f z := by
  show f _ = _
  rw [jI_cl h hn]
theorem aI_up {f : Int → Int} {z v : Int} {n : Nat} (h : 0 ≤ z ∧ z < (n : Int)) (hn : n < 2147483648) : upd (aI f) (jI z).toNatClampNeg (jI v) = aI (upI f z v) := by
  have e := jI_cl h hn
  funext k
  by_cases hk : k = (jI z).toNatClampNeg
  · subst hk
    show (if _ = _ then _ else _) = jI (upI f z v _)
    rw [if_pos rfl, e, upI_eq]
  · show (if _ = _ then _ else _) = jI (upI f z v _)
    rw [if_neg hk, upI_ne _ _ (by omega)]
    rfl
theorem aL_up {f : Int → Int} {z v : Int} {n : Nat} (h : 0 ≤ z ∧ z < (n : Int)) (hn : n < 2147483648) : vp_updL (aL f) (jI z).toNatClampNeg (jL v) = aL (upI f z v) := by
  have e := jI_cl h hn
  funext k
  by_cases hk : k = (jI z).toNatClampNeg
  · subst hk
    show (if _ = _ then _ else _) = jL (upI f z v _)
    rw [if_pos rfl, e, upI_eq]
  · show (if _ = _ then _ else _) = jL (upI f z v _)
    rw [if_neg hk, upI_ne _ _ (by omega)]
    rfl
theorem aW_up {f : Int → Int64} {z : Int} {v : Int64} {n : Nat} (h : 0 ≤ z ∧ z < (n : Int)) (hn : n < 2147483648) : vp_updL (aW f) (jI z).toNatClampNeg v = aW (upW f z v) := by
  have e := jI_cl h hn
  funext k
  by_cases hk : k = (jI z).toNatClampNeg
  · subst hk
    show (if _ = _ then _ else _) = upW f z v _
    rw [if_pos rfl, e, upW_eq]
  · show (if _ = _ then _ else _) = upW f z v _
    rw [if_neg hk, upW_ne _ _ (by omega)]
    rfl
theorem j_br {P P2 : Prop} (h : P ↔ P2) {X Y : Prop} (a : P2 → X) (b : ¬ P2 → Y) : (P → X) ∧ (¬ P → Y) := ⟨fun q => a (h.mp q), fun q => b (fun r => q (h.mpr r))⟩
section JV
variable {p : Program} {l : Launch} {e : Env} {R : Room} {s : State} {m : MethodId} {args : Array Value} {below : List Frame} {meth : Method} {c : Code} {H : Heap} {locs : List Loc} {cells slots : Nat} {Q : State → Prop}
variable {cc : ByteArray} {pc : Nat} {ls : Array Slot} {rest : List Value} {D : va_G} {cl : List vw_C} {tys : List (ClassId × FieldType)} {ws : va_W} {A : Nat → Prop} {H0 : Heap}

theorem jv_iadd (hx : p.tables.exec = Jvm.exec) (hb : c.code = cc) {a b : Int} (hdg : decode cc pc = .ok (.iadd, 1)) (k : W p l e R s m args below meth c H locs cells slots Q (F0 m (pc + 1) ls (.int (jI (a + b)) :: rest))) : W p l e R s m args below meth c H locs cells slots Q (F0 m pc ls (.int (jI b) :: .int (jI a) :: rest)) := lv_iadd hx hb hdg (by rw [jI_add]; exact k)
theorem jv_isub (hx : p.tables.exec = Jvm.exec) (hb : c.code = cc) {a b : Int} (hdg : decode cc pc = .ok (.isub, 1)) (k : W p l e R s m args below meth c H locs cells slots Q (F0 m (pc + 1) ls (.int (jI (a - b)) :: rest))) : W p l e R s m args below meth c H locs cells slots Q (F0 m pc ls (.int (jI b) :: .int (jI a) :: rest)) := lv_isub hx hb hdg (by rw [jI_sub]; exact k)
theorem jv_imul (hx : p.tables.exec = Jvm.exec) (hb : c.code = cc) {a b : Int} (hdg : decode cc pc = .ok (.imul, 1)) (k : W p l e R s m args below meth c H locs cells slots Q (F0 m (pc + 1) ls (.int (jI (a * b)) :: rest))) : W p l e R s m args below meth c H locs cells slots Q (F0 m pc ls (.int (jI b) :: .int (jI a) :: rest)) := lv_imul hx hb hdg (by rw [jI_mul]; exact k)
theorem jv_ladd (hx : p.tables.exec = Jvm.exec) (hb : c.code = cc) {a b : Int} (hdg : decode cc pc = .ok (.ladd, 1)) (k : W p l e R s m args below meth c H locs cells slots Q (F0 m (pc + 1) ls (.long (jL (a + b)) :: rest))) : W p l e R s m args below meth c H locs cells slots Q (F0 m pc ls (.long (jL b) :: .long (jL a) :: rest)) := lv_ladd hx hb hdg (by rw [jL_add]; exact k)
theorem jv_lsub (hx : p.tables.exec = Jvm.exec) (hb : c.code = cc) {a b : Int} (hdg : decode cc pc = .ok (.lsub, 1)) (k : W p l e R s m args below meth c H locs cells slots Q (F0 m (pc + 1) ls (.long (jL (a - b)) :: rest))) : W p l e R s m args below meth c H locs cells slots Q (F0 m pc ls (.long (jL b) :: .long (jL a) :: rest)) := lv_lsub hx hb hdg (by rw [jL_sub]; exact k)
theorem jv_lmul (hx : p.tables.exec = Jvm.exec) (hb : c.code = cc) {a b : Int} (hdg : decode cc pc = .ok (.lmul, 1)) (k : W p l e R s m args below meth c H locs cells slots Q (F0 m (pc + 1) ls (.long (jL (a * b)) :: rest))) : W p l e R s m args below meth c H locs cells slots Q (F0 m pc ls (.long (jL b) :: .long (jL a) :: rest)) := lv_lmul hx hb hdg (by rw [jL_mul]; exact k)
theorem jv_ineg (hx : p.tables.exec = Jvm.exec) (hb : c.code = cc) {a : Int} (hdg : decode cc pc = .ok (.ineg, 1)) (k : W p l e R s m args below meth c H locs cells slots Q (F0 m (pc + 1) ls (.int (jI (-a)) :: rest))) : W p l e R s m args below meth c H locs cells slots Q (F0 m pc ls (.int (jI a) :: rest)) := lv_ineg hx hb hdg (by rw [jI_neg]; exact k)
theorem jv_idiv (hx : p.tables.exec = Jvm.exec) (hb : c.code = cc) {a b : Int} (ha : rI a) (hb2 : rI b) (h0 : b ≠ 0) (hdg : decode cc pc = .ok (.idiv, 1)) (k : W p l e R s m args below meth c H locs cells slots Q (F0 m (pc + 1) ls (.int (jI (a.tdiv b)) :: rest))) : W p l e R s m args below meth c H locs cells slots Q (F0 m pc ls (.int (jI b) :: .int (jI a) :: rest)) := lv_idiv hx hb hdg (fun q => h0 ((jI_inj hb2 ⟨by decide, by decide⟩).mp (q.trans rfl))) (by rw [jI_div ha hb2]; exact k)
theorem jv_idivN (hx : p.tables.exec = Jvm.exec) (hb : c.code = cc) {a b : Int} (ha : 0 ≤ a ∧ rI a) (hb2 : 0 < b ∧ rI b) (hdg : decode cc pc = .ok (.idiv, 1)) (k : W p l e R s m args below meth c H locs cells slots Q (F0 m (pc + 1) ls (.int (jI (a / b)) :: rest))) : W p l e R s m args below meth c H locs cells slots Q (F0 m pc ls (.int (jI b) :: .int (jI a) :: rest)) := jv_idiv hx hb ha.2 hb2.2 (by omega) hdg (by rw [Int.tdiv_eq_ediv_of_nonneg ha.1]; exact k)
theorem jv_ldiv (hx : p.tables.exec = Jvm.exec) (hb : c.code = cc) {a b : Int} (ha : rL a) (hb2 : rL b) (h0 : b ≠ 0) (hdg : decode cc pc = .ok (.ldiv, 1)) (k : W p l e R s m args below meth c H locs cells slots Q (F0 m (pc + 1) ls (.long (jL (a.tdiv b)) :: rest))) : W p l e R s m args below meth c H locs cells slots Q (F0 m pc ls (.long (jL b) :: .long (jL a) :: rest)) := lv_ldiv hx hb hdg (fun q => h0 ((jL_inj hb2 ⟨by decide, by decide⟩).mp (q.trans rfl))) (by rw [jL_div ha hb2]; exact k)
theorem jv_ldivN (hx : p.tables.exec = Jvm.exec) (hb : c.code = cc) {a b : Int} (ha : 0 ≤ a ∧ rL a) (hb2 : 0 < b ∧ rL b) (hdg : decode cc pc = .ok (.ldiv, 1)) (k : W p l e R s m args below meth c H locs cells slots Q (F0 m (pc + 1) ls (.long (jL (a / b)) :: rest))) : W p l e R s m args below meth c H locs cells slots Q (F0 m pc ls (.long (jL b) :: .long (jL a) :: rest)) := jv_ldiv hx hb ha.2 hb2.2 (by omega) hdg (by rw [Int.tdiv_eq_ediv_of_nonneg ha.1]; exact k)
theorem jv_iremN (hx : p.tables.exec = Jvm.exec) (hb : c.code = cc) {a b : Int} (ha : 0 ≤ a ∧ rI a) (hb2 : 0 < b ∧ rI b) (hdg : decode cc pc = .ok (.irem, 1)) (k : W p l e R s m args below meth c H locs cells slots Q (F0 m (pc + 1) ls (.int (jI (a % b)) :: rest))) : W p l e R s m args below meth c H locs cells slots Q (F0 m pc ls (.int (jI b) :: .int (jI a) :: rest)) := lv_irem hx hb hdg (fun q => (show b ≠ 0 by omega) ((jI_inj hb2.2 ⟨by decide, by decide⟩).mp (q.trans rfl))) (by
  rw [jI_div ha.2 hb2.2, jI_mul, jI_sub, Int.tdiv_eq_ediv_of_nonneg ha.1, show a - a / b * b = a % b by rw [Int.emod_def, Int.mul_comm]]
  exact k)
theorem jv_lremN (hx : p.tables.exec = Jvm.exec) (hb : c.code = cc) {a b : Int} (ha : 0 ≤ a ∧ rL a) (hb2 : 0 < b ∧ rL b) (hdg : decode cc pc = .ok (.lrem, 1)) (k : W p l e R s m args below meth c H locs cells slots Q (F0 m (pc + 1) ls (.long (jL (a % b)) :: rest))) : W p l e R s m args below meth c H locs cells slots Q (F0 m pc ls (.long (jL b) :: .long (jL a) :: rest)) := lv_lrem hx hb hdg (fun q => (show b ≠ 0 by omega) ((jL_inj hb2.2 ⟨by decide, by decide⟩).mp (q.trans rfl))) (by
  rw [jL_div ha.2 hb2.2, jL_mul, jL_sub, Int.tdiv_eq_ediv_of_nonneg ha.1, show a - a / b * b = a % b by rw [Int.emod_def, Int.mul_comm]]
  exact k)
theorem jv_i2l (hx : p.tables.exec = Jvm.exec) (hb : c.code = cc) {a : Int} (ha : rI a) (hdg : decode cc pc = .ok (.i2l, 1)) (k : W p l e R s m args below meth c H locs cells slots Q (F0 m (pc + 1) ls (.long (jL a) :: rest))) : W p l e R s m args below meth c H locs cells slots Q (F0 m pc ls (.int (jI a) :: rest)) := lv_i2l (v := jL a) hx hb hdg (jI_l ha) k
theorem jv_l2i (hx : p.tables.exec = Jvm.exec) (hb : c.code = cc) {a : Int} (hdg : decode cc pc = .ok (.l2i, 1)) (k : W p l e R s m args below meth c H locs cells slots Q (F0 m (pc + 1) ls (.int (jI a) :: rest))) : W p l e R s m args below meth c H locs cells slots Q (F0 m pc ls (.long (jL a) :: rest)) := lv_l2i (v := jI a) hx hb hdg (jL_i a) k
theorem jv_icmp_eq (hx : p.tables.exec = Jvm.exec) (hb : c.code = cc) {a b : Int} (ha : rI a) (hb2 : rI b) {off : Int} {tgt : Nat} (hdg : decode cc pc = .ok (.if_icmp .eq off, 3)) (ht : (pc : Int) + off = (tgt : Int)) (kt : a = b → W p l e R s m args below meth c H locs cells slots Q (F0 m tgt ls (rest))) (kf : a ≠ b → W p l e R s m args below meth c H locs cells slots Q (F0 m (pc + 3) ls (rest))) : W p l e R s m args below meth c H locs cells slots Q (F0 m pc ls (.int (jI b) :: .int (jI a) :: rest)) := lv_icmp_eq hx hb hdg ht (fun q => kt ((jI_inj ha hb2).mp q)) (fun q => kf (fun r => q ((jI_inj ha hb2).mpr r)))
theorem jv_icmp_ne (hx : p.tables.exec = Jvm.exec) (hb : c.code = cc) {a b : Int} (ha : rI a) (hb2 : rI b) {off : Int} {tgt : Nat} (hdg : decode cc pc = .ok (.if_icmp .ne off, 3)) (ht : (pc : Int) + off = (tgt : Int)) (kt : a ≠ b → W p l e R s m args below meth c H locs cells slots Q (F0 m tgt ls (rest))) (kf : a = b → W p l e R s m args below meth c H locs cells slots Q (F0 m (pc + 3) ls (rest))) : W p l e R s m args below meth c H locs cells slots Q (F0 m pc ls (.int (jI b) :: .int (jI a) :: rest)) := lv_icmp_ne hx hb hdg ht (fun q => kt (fun r => q ((jI_inj ha hb2).mpr r))) (fun q => kf ((jI_inj ha hb2).mp q))
theorem jv_icmp_lt (hx : p.tables.exec = Jvm.exec) (hb : c.code = cc) {a b : Int} (ha : rI a) (hb2 : rI b) {off : Int} {tgt : Nat} (hdg : decode cc pc = .ok (.if_icmp .lt off, 3)) (ht : (pc : Int) + off = (tgt : Int)) (kt : a < b → W p l e R s m args below meth c H locs cells slots Q (F0 m tgt ls (rest))) (kf : b ≤ a → W p l e R s m args below meth c H locs cells slots Q (F0 m (pc + 3) ls (rest))) : W p l e R s m args below meth c H locs cells slots Q (F0 m pc ls (.int (jI b) :: .int (jI a) :: rest)) := lv_icmp_lt hx hb hdg ht (fun q => kt ((jI_lt ha hb2).mp q)) (fun q => kf (Int.not_lt.mp fun r => q ((jI_lt ha hb2).mpr r)))
theorem jv_icmp_ge (hx : p.tables.exec = Jvm.exec) (hb : c.code = cc) {a b : Int} (ha : rI a) (hb2 : rI b) {off : Int} {tgt : Nat} (hdg : decode cc pc = .ok (.if_icmp .ge off, 3)) (ht : (pc : Int) + off = (tgt : Int)) (kt : b ≤ a → W p l e R s m args below meth c H locs cells slots Q (F0 m tgt ls (rest))) (kf : a < b → W p l e R s m args below meth c H locs cells slots Q (F0 m (pc + 3) ls (rest))) : W p l e R s m args below meth c H locs cells slots Q (F0 m pc ls (.int (jI b) :: .int (jI a) :: rest)) := lv_icmp_ge hx hb hdg ht (fun q => kt ((jI_le hb2 ha).mp q)) (fun q => kf (Int.not_le.mp fun r => q ((jI_le hb2 ha).mpr r)))
theorem jv_icmp_gt (hx : p.tables.exec = Jvm.exec) (hb : c.code = cc) {a b : Int} (ha : rI a) (hb2 : rI b) {off : Int} {tgt : Nat} (hdg : decode cc pc = .ok (.if_icmp .gt off, 3)) (ht : (pc : Int) + off = (tgt : Int)) (kt : b < a → W p l e R s m args below meth c H locs cells slots Q (F0 m tgt ls (rest))) (kf : a ≤ b → W p l e R s m args below meth c H locs cells slots Q (F0 m (pc + 3) ls (rest))) : W p l e R s m args below meth c H locs cells slots Q (F0 m pc ls (.int (jI b) :: .int (jI a) :: rest)) := lv_icmp_gt hx hb hdg ht (fun q => kt ((jI_lt hb2 ha).mp q)) (fun q => kf (Int.not_lt.mp fun r => q ((jI_lt hb2 ha).mpr r)))
theorem jv_icmp_le (hx : p.tables.exec = Jvm.exec) (hb : c.code = cc) {a b : Int} (ha : rI a) (hb2 : rI b) {off : Int} {tgt : Nat} (hdg : decode cc pc = .ok (.if_icmp .le off, 3)) (ht : (pc : Int) + off = (tgt : Int)) (kt : a ≤ b → W p l e R s m args below meth c H locs cells slots Q (F0 m tgt ls (rest))) (kf : b < a → W p l e R s m args below meth c H locs cells slots Q (F0 m (pc + 3) ls (rest))) : W p l e R s m args below meth c H locs cells slots Q (F0 m pc ls (.int (jI b) :: .int (jI a) :: rest)) := lv_icmp_le hx hb hdg ht (fun q => kt ((jI_le ha hb2).mp q)) (fun q => kf (Int.not_le.mp fun r => q ((jI_le ha hb2).mpr r)))
theorem jv_if_eq (hx : p.tables.exec = Jvm.exec) (hb : c.code = cc) {a : Int} (ha : rI a) {off : Int} {tgt : Nat} (hdg : decode cc pc = .ok (.ifCond .eq off, 3)) (ht : (pc : Int) + off = (tgt : Int)) (kt : a = 0 → W p l e R s m args below meth c H locs cells slots Q (F0 m tgt ls (rest))) (kf : a ≠ 0 → W p l e R s m args below meth c H locs cells slots Q (F0 m (pc + 3) ls (rest))) : W p l e R s m args below meth c H locs cells slots Q (F0 m pc ls (.int (jI a) :: rest)) := lv_if_eq hx hb hdg ht (fun q => kt ((jI_inj ha rI_0).mp q)) (fun q => kf (fun r => q ((jI_inj ha rI_0).mpr r)))
theorem jv_if_ne (hx : p.tables.exec = Jvm.exec) (hb : c.code = cc) {a : Int} (ha : rI a) {off : Int} {tgt : Nat} (hdg : decode cc pc = .ok (.ifCond .ne off, 3)) (ht : (pc : Int) + off = (tgt : Int)) (kt : a ≠ 0 → W p l e R s m args below meth c H locs cells slots Q (F0 m tgt ls (rest))) (kf : a = 0 → W p l e R s m args below meth c H locs cells slots Q (F0 m (pc + 3) ls (rest))) : W p l e R s m args below meth c H locs cells slots Q (F0 m pc ls (.int (jI a) :: rest)) := lv_if_ne hx hb hdg ht (fun q => kt (fun r => q ((jI_inj ha rI_0).mpr r))) (fun q => kf ((jI_inj ha rI_0).mp q))
theorem jv_if_lt (hx : p.tables.exec = Jvm.exec) (hb : c.code = cc) {a : Int} (ha : rI a) {off : Int} {tgt : Nat} (hdg : decode cc pc = .ok (.ifCond .lt off, 3)) (ht : (pc : Int) + off = (tgt : Int)) (kt : a < 0 → W p l e R s m args below meth c H locs cells slots Q (F0 m tgt ls (rest))) (kf : 0 ≤ a → W p l e R s m args below meth c H locs cells slots Q (F0 m (pc + 3) ls (rest))) : W p l e R s m args below meth c H locs cells slots Q (F0 m pc ls (.int (jI a) :: rest)) := lv_if_lt hx hb hdg ht (fun q => kt ((jI_lt ha rI_0).mp q)) (fun q => kf (Int.not_lt.mp fun r => q ((jI_lt ha rI_0).mpr r)))
theorem jv_if_ge (hx : p.tables.exec = Jvm.exec) (hb : c.code = cc) {a : Int} (ha : rI a) {off : Int} {tgt : Nat} (hdg : decode cc pc = .ok (.ifCond .ge off, 3)) (ht : (pc : Int) + off = (tgt : Int)) (kt : 0 ≤ a → W p l e R s m args below meth c H locs cells slots Q (F0 m tgt ls (rest))) (kf : a < 0 → W p l e R s m args below meth c H locs cells slots Q (F0 m (pc + 3) ls (rest))) : W p l e R s m args below meth c H locs cells slots Q (F0 m pc ls (.int (jI a) :: rest)) := lv_if_ge hx hb hdg ht (fun q => kt ((jI_le rI_0 ha).mp q)) (fun q => kf (Int.not_le.mp fun r => q ((jI_le rI_0 ha).mpr r)))
theorem jv_if_gt (hx : p.tables.exec = Jvm.exec) (hb : c.code = cc) {a : Int} (ha : rI a) {off : Int} {tgt : Nat} (hdg : decode cc pc = .ok (.ifCond .gt off, 3)) (ht : (pc : Int) + off = (tgt : Int)) (kt : 0 < a → W p l e R s m args below meth c H locs cells slots Q (F0 m tgt ls (rest))) (kf : a ≤ 0 → W p l e R s m args below meth c H locs cells slots Q (F0 m (pc + 3) ls (rest))) : W p l e R s m args below meth c H locs cells slots Q (F0 m pc ls (.int (jI a) :: rest)) := lv_if_gt hx hb hdg ht (fun q => kt ((jI_lt rI_0 ha).mp q)) (fun q => kf (Int.not_lt.mp fun r => q ((jI_lt rI_0 ha).mpr r)))
theorem jv_if_le (hx : p.tables.exec = Jvm.exec) (hb : c.code = cc) {a : Int} (ha : rI a) {off : Int} {tgt : Nat} (hdg : decode cc pc = .ok (.ifCond .le off, 3)) (ht : (pc : Int) + off = (tgt : Int)) (kt : a ≤ 0 → W p l e R s m args below meth c H locs cells slots Q (F0 m tgt ls (rest))) (kf : 0 < a → W p l e R s m args below meth c H locs cells slots Q (F0 m (pc + 3) ls (rest))) : W p l e R s m args below meth c H locs cells slots Q (F0 m pc ls (.int (jI a) :: rest)) := lv_if_le hx hb hdg ht (fun q => kt ((jI_le ha rI_0).mp q)) (fun q => kf (Int.not_le.mp fun r => q ((jI_le ha rI_0).mpr r)))
theorem jL_cmp {a b : Int} (ha : rL a) (hb : rL b) : lg_cmp (jL a) (jL b) = jI (if b < a then 1 else if a = b then 0 else -1) := by
  unfold lg_cmp
  by_cases h1 : b < a
  · rw [if_pos ((jL_lt hb ha).mpr h1), if_pos h1]; rfl
  · rw [if_neg (fun q => h1 ((jL_lt hb ha).mp q)), if_neg h1]
    by_cases h2 : a = b
    · rw [if_pos ((jL_inj ha hb).mpr h2), if_pos h2]; rfl
    · rw [if_neg (fun q => h2 ((jL_inj ha hb).mp q)), if_neg h2]; rfl
theorem jL_cmpr {a b : Int} : rI (if b < a then 1 else if a = b then 0 else -1) := by
  unfold rI
  split
  · omega
  · split <;> omega
theorem jv_lcmp_lt (hx : p.tables.exec = Jvm.exec) (hb : c.code = cc) {a b : Int} (ha : rL a) (hb2 : rL b) {off : Int} {tgt : Nat} (hdc : decode cc pc = .ok (.lcmp, 1)) (hdg : decode cc (pc + 1) = .ok (.ifCond .lt off, 3)) (ht : ((pc + 1 : Nat) : Int) + off = (tgt : Int)) (kt : a < b → W p l e R s m args below meth c H locs cells slots Q (F0 m tgt ls (rest))) (kf : b ≤ a → W p l e R s m args below meth c H locs cells slots Q (F0 m (pc + 4) ls (rest))) : W p l e R s m args below meth c H locs cells slots Q (F0 m pc ls (.long (jL b) :: .long (jL a) :: rest)) := by
  refine W.lcmp hx hb hdc ?_
  rw [jL_cmp ha hb2]
  refine jv_if_lt hx hb jL_cmpr hdg ht (fun q => kt ?_) (fun q => kf ?_)
  all_goals (revert q; split <;> (try split) <;> omega)
theorem jv_lcmp_ge (hx : p.tables.exec = Jvm.exec) (hb : c.code = cc) {a b : Int} (ha : rL a) (hb2 : rL b) {off : Int} {tgt : Nat} (hdc : decode cc pc = .ok (.lcmp, 1)) (hdg : decode cc (pc + 1) = .ok (.ifCond .ge off, 3)) (ht : ((pc + 1 : Nat) : Int) + off = (tgt : Int)) (kt : b ≤ a → W p l e R s m args below meth c H locs cells slots Q (F0 m tgt ls (rest))) (kf : a < b → W p l e R s m args below meth c H locs cells slots Q (F0 m (pc + 4) ls (rest))) : W p l e R s m args below meth c H locs cells slots Q (F0 m pc ls (.long (jL b) :: .long (jL a) :: rest)) := by
  refine W.lcmp hx hb hdc ?_
  rw [jL_cmp ha hb2]
  refine jv_if_ge hx hb jL_cmpr hdg ht (fun q => kt ?_) (fun q => kf ?_)
  all_goals (revert q; split <;> (try split) <;> omega)
theorem jv_lcmp_gt (hx : p.tables.exec = Jvm.exec) (hb : c.code = cc) {a b : Int} (ha : rL a) (hb2 : rL b) {off : Int} {tgt : Nat} (hdc : decode cc pc = .ok (.lcmp, 1)) (hdg : decode cc (pc + 1) = .ok (.ifCond .gt off, 3)) (ht : ((pc + 1 : Nat) : Int) + off = (tgt : Int)) (kt : b < a → W p l e R s m args below meth c H locs cells slots Q (F0 m tgt ls (rest))) (kf : a ≤ b → W p l e R s m args below meth c H locs cells slots Q (F0 m (pc + 4) ls (rest))) : W p l e R s m args below meth c H locs cells slots Q (F0 m pc ls (.long (jL b) :: .long (jL a) :: rest)) := by
  refine W.lcmp hx hb hdc ?_
  rw [jL_cmp ha hb2]
  refine jv_if_gt hx hb jL_cmpr hdg ht (fun q => kt ?_) (fun q => kf ?_)
  all_goals (revert q; split <;> (try split) <;> omega)
theorem jv_lcmp_le (hx : p.tables.exec = Jvm.exec) (hb : c.code = cc) {a b : Int} (ha : rL a) (hb2 : rL b) {off : Int} {tgt : Nat} (hdc : decode cc pc = .ok (.lcmp, 1)) (hdg : decode cc (pc + 1) = .ok (.ifCond .le off, 3)) (ht : ((pc + 1 : Nat) : Int) + off = (tgt : Int)) (kt : a ≤ b → W p l e R s m args below meth c H locs cells slots Q (F0 m tgt ls (rest))) (kf : b < a → W p l e R s m args below meth c H locs cells slots Q (F0 m (pc + 4) ls (rest))) : W p l e R s m args below meth c H locs cells slots Q (F0 m pc ls (.long (jL b) :: .long (jL a) :: rest)) := by
  refine W.lcmp hx hb hdc ?_
  rw [jL_cmp ha hb2]
  refine jv_if_le hx hb jL_cmpr hdg ht (fun q => kt ?_) (fun q => kf ?_)
  all_goals (revert q; split <;> (try split) <;> omega)
theorem jv_lcmp_eq (hx : p.tables.exec = Jvm.exec) (hb : c.code = cc) {a b : Int} (ha : rL a) (hb2 : rL b) {off : Int} {tgt : Nat} (hdc : decode cc pc = .ok (.lcmp, 1)) (hdg : decode cc (pc + 1) = .ok (.ifCond .eq off, 3)) (ht : ((pc + 1 : Nat) : Int) + off = (tgt : Int)) (kt : a = b → W p l e R s m args below meth c H locs cells slots Q (F0 m tgt ls (rest))) (kf : a ≠ b → W p l e R s m args below meth c H locs cells slots Q (F0 m (pc + 4) ls (rest))) : W p l e R s m args below meth c H locs cells slots Q (F0 m pc ls (.long (jL b) :: .long (jL a) :: rest)) := by
  refine W.lcmp hx hb hdc ?_
  rw [jL_cmp ha hb2]
  refine jv_if_eq hx hb jL_cmpr hdg ht (fun q => kt ?_) (fun q => kf ?_)
  all_goals (revert q; split <;> (try split) <;> omega)
theorem jv_lcmp_ne (hx : p.tables.exec = Jvm.exec) (hb : c.code = cc) {a b : Int} (ha : rL a) (hb2 : rL b) {off : Int} {tgt : Nat} (hdc : decode cc pc = .ok (.lcmp, 1)) (hdg : decode cc (pc + 1) = .ok (.ifCond .ne off, 3)) (ht : ((pc + 1 : Nat) : Int) + off = (tgt : Int)) (kt : a ≠ b → W p l e R s m args below meth c H locs cells slots Q (F0 m tgt ls (rest))) (kf : a = b → W p l e R s m args below meth c H locs cells slots Q (F0 m (pc + 4) ls (rest))) : W p l e R s m args below meth c H locs cells slots Q (F0 m pc ls (.long (jL b) :: .long (jL a) :: rest)) := by
  refine W.lcmp hx hb hdc ?_
  rw [jL_cmp ha hb2]
  refine jv_if_ne hx hb jL_cmpr hdg ht (fun q => kt ?_) (fun q => kf ?_)
  all_goals (revert q; split <;> (try split) <;> omega)
theorem jv_iconst (hx : p.tables.exec = Jvm.exec) (hb : c.code = cc) {n : Int} (hdg : decode cc pc = .ok (.iconst n, 1)) (k : W p l e R s m args below meth c H locs cells slots Q (F0 m (pc + 1) ls (.int (jI n) :: rest))) : W p l e R s m args below meth c H locs cells slots Q (F0 m pc ls (rest)) := lv_iconst (v := jI n) hx hb hdg (by rfl) k
theorem jv_bipush (hx : p.tables.exec = Jvm.exec) (hb : c.code = cc) {n : Int} (hv : (Int8.ofInt n).toInt32 = jI n) (hdg : decode cc pc = .ok (.bipush n, 2)) (k : W p l e R s m args below meth c H locs cells slots Q (F0 m (pc + 2) ls (.int (jI n) :: rest))) : W p l e R s m args below meth c H locs cells slots Q (F0 m pc ls (rest)) := lv_bipush (v := jI n) hx hb hdg hv k
theorem jv_sipush (hx : p.tables.exec = Jvm.exec) (hb : c.code = cc) {n : Int} (hv : (Int16.ofInt n).toInt32 = jI n) (hdg : decode cc pc = .ok (.sipush n, 3)) (k : W p l e R s m args below meth c H locs cells slots Q (F0 m (pc + 3) ls (.int (jI n) :: rest))) : W p l e R s m args below meth c H locs cells slots Q (F0 m pc ls (rest)) := lv_sipush (v := jI n) hx hb hdg hv k
theorem jv_lconst0 (hx : p.tables.exec = Jvm.exec) (hb : c.code = cc) (hdg : decode cc pc = .ok (.lconst 0, 1)) (k : W p l e R s m args below meth c H locs cells slots Q (F0 m (pc + 1) ls (.long (jL 0) :: rest))) : W p l e R s m args below meth c H locs cells slots Q (F0 m pc ls (rest)) := lv_lconst (v := jL 0) hx hb hdg rfl k
theorem jv_lconst1 (hx : p.tables.exec = Jvm.exec) (hb : c.code = cc) (hdg : decode cc pc = .ok (.lconst 1, 1)) (k : W p l e R s m args below meth c H locs cells slots Q (F0 m (pc + 1) ls (.long (jL 1) :: rest))) : W p l e R s m args below meth c H locs cells slots Q (F0 m pc ls (rest)) := lv_lconst (v := jL 1) hx hb hdg rfl k
theorem jv_ldc (hx : p.tables.exec = Jvm.exec) (hb : c.code = cc) {own : String} {index : Nat} {v : Int32} {n : Int} (hn : v = jI n) (hown : s.vm.findClass own = some m.cls) (hconst : (Jvm.Cond.constant own index v).before args s = true) (hdg : decode cc pc = .ok (.ldc index, 2)) (k : W p l e R s m args below meth c H locs cells slots Q (F0 m (pc + 2) ls (.int (jI n) :: rest))) : W p l e R s m args below meth c H locs cells slots Q (F0 m pc ls (rest)) := lv_ldc hx hb hown hconst hdg (hn ▸ k)
theorem jv_ldc2 (hx : p.tables.exec = Jvm.exec) (hb : c.code = cc) {own : String} {index : Nat} {v : Int64} {n : Int} (hn : v = jL n) (hown : s.vm.findClass own = some m.cls) (hconst : (Jvm.Cond.constantLong own index v).before args s = true) (hdg : decode cc pc = .ok (.ldc2_w index, 3)) (k : W p l e R s m args below meth c H locs cells slots Q (F0 m (pc + 3) ls (.long (jL n) :: rest))) : W p l e R s m args below meth c H locs cells slots Q (F0 m pc ls (rest)) := lv_ldc2 hx hb hown hconst hdg (hn ▸ k)
theorem jv_iinc (hx : p.tables.exec = Jvm.exec) (hb : c.code = cc) {i nL k : Nat} {n a : Int} {lv lv2 : List (Nat × Value)} (hdg : decode cc pc = .ok (.iinc i n, 3)) (h : lv_has ls nL lv) (hk : lv[k]? = some (i, .int (jI a))) (hn : i < nL) (hl : (i, Value.int (jI (a + n))) :: lv.filter (fun q => !(q.1 == i) && !(q.1 + 1 == i && q.2.category == 2)) = lv2) (kk : ∀ ls2 : Array Slot, lv_has ls2 nL lv2 → W p l e R s m args below meth c H locs cells slots Q (F0 m (pc + 3) ls2 (rest))) : W p l e R s m args below meth c H locs cells slots Q (F0 m pc ls (rest)) := lv_iinc (v := jI (a + n)) hx hb hdg h hk (jI_add a n) hn hl kk
theorem jv_top {a b : Int} (h : a = b) (k : W p l e R s m args below meth c H locs cells slots Q (F0 m pc ls (.int (jI b) :: rest))) : W p l e R s m args below meth c H locs cells slots Q (F0 m pc ls (.int (jI a) :: rest)) := by rw [h]; exact k
theorem jv_topL {a b : Int} (h : a = b) (k : W p l e R s m args below meth c H locs cells slots Q (F0 m pc ls (.long (jL b) :: rest))) : W p l e R s m args below meth c H locs cells slots Q (F0 m pc ls (.long (jL a) :: rest)) := by rw [h]; exact k
theorem jv_nm {a : Int} (k : ∀ z : Int, z = a → W p l e R s m args below meth c H locs cells slots Q (F0 m pc ls (.int (jI z) :: rest))) : W p l e R s m args below meth c H locs cells slots Q (F0 m pc ls (.int (jI a) :: rest)) := k a rfl
theorem jv_nmL {a : Int} (k : ∀ z : Int, z = a → W p l e R s m args below meth c H locs cells slots Q (F0 m pc ls (.long (jL z) :: rest))) : W p l e R s m args below meth c H locs cells slots Q (F0 m pc ls (.long (jL a) :: rest)) := k a rfl
theorem jv_iald (hx : p.tables.exec = Jvm.exec) (hb : c.code = cc) (hK : va_K D cl tys s) (hP : va_P D cl ws H) (q0 t0 : Nat) {b : Nat} {cA : ClassId} {n : Nat} {f : Int → Int} (ha : ws[q0]? = some (b, .inl (cA, n, .inl (aI f)))) (ht : tys[t0]? = some (cA, .int)) {i : Int} (hin : 0 ≤ i ∧ i < (n : Int)) (hn : n < 2147483648) (hdg : decode cc pc = .ok (.iaload, 1)) (k : W p l e R s m args below meth c H locs cells slots Q (F0 m (pc + 1) ls (.int (jI (f i)) :: rest))) : W p l e R s m args below meth c H locs cells slots Q (F0 m pc ls (.int (jI i) :: .ref b :: rest)) := va_iald hx hb hK hP q0 t0 ha ht (jI_in hin hn) hdg (by rw [aI_at hin hn]; exact k)
theorem jv_zald (hx : p.tables.exec = Jvm.exec) (hb : c.code = cc) (hK : va_K D cl tys s) (hP : va_P D cl ws H) (q0 t0 : Nat) {b : Nat} {cA : ClassId} {n : Nat} {f : Int → Int} (ha : ws[q0]? = some (b, .inl (cA, n, .inl (aI f)))) (ht : tys[t0]? = some (cA, .boolean)) {i : Int} (hin : 0 ≤ i ∧ i < (n : Int)) (hn : n < 2147483648) (hdg : decode cc pc = .ok (.baload, 1)) (k : W p l e R s m args below meth c H locs cells slots Q (F0 m (pc + 1) ls (.int (jI (f i)) :: rest))) : W p l e R s m args below meth c H locs cells slots Q (F0 m pc ls (.int (jI i) :: .ref b :: rest)) := va_zald hx hb hK hP q0 t0 ha ht (jI_in hin hn) hdg (by rw [aI_at hin hn]; exact k)
theorem jv_lald (hx : p.tables.exec = Jvm.exec) (hb : c.code = cc) (hK : va_K D cl tys s) (hP : va_P D cl ws H) (q0 t0 : Nat) {b : Nat} {cA : ClassId} {n : Nat} {f : Int → Int} (ha : ws[q0]? = some (b, .inl (cA, n, .inr (.inl (aL f))))) (ht : tys[t0]? = some (cA, .long)) {i : Int} (hin : 0 ≤ i ∧ i < (n : Int)) (hn : n < 2147483648) (hdg : decode cc pc = .ok (.laload, 1)) (k : W p l e R s m args below meth c H locs cells slots Q (F0 m (pc + 1) ls (.long (jL (f i)) :: rest))) : W p l e R s m args below meth c H locs cells slots Q (F0 m pc ls (.int (jI i) :: .ref b :: rest)) := va_lald hx hb hK hP q0 t0 ha ht (jI_in hin hn) hdg (by rw [aL_at hin hn]; exact k)
theorem jv_wald (hx : p.tables.exec = Jvm.exec) (hb : c.code = cc) (hK : va_K D cl tys s) (hP : va_P D cl ws H) (q0 t0 : Nat) {b : Nat} {cA : ClassId} {n : Nat} {f : Int → Int64} (ha : ws[q0]? = some (b, .inl (cA, n, .inr (.inl (aW f))))) (ht : tys[t0]? = some (cA, .long)) {i : Int} (hin : 0 ≤ i ∧ i < (n : Int)) (hn : n < 2147483648) (hdg : decode cc pc = .ok (.laload, 1)) (k : W p l e R s m args below meth c H locs cells slots Q (F0 m (pc + 1) ls (.long (f i) :: rest))) : W p l e R s m args below meth c H locs cells slots Q (F0 m pc ls (.int (jI i) :: .ref b :: rest)) := va_lald hx hb hK hP q0 t0 ha ht (jI_in hin hn) hdg (by rw [aW_at hin hn]; exact k)
theorem jv_iast (hx : p.tables.exec = Jvm.exec) (hb : c.code = cc) (hK : va_K D cl tys s) (hP : va_P D cl ws H) (hD : va_D A ws) (hS : va_S A H0 H locs) (q0 t0 : Nat) {b : Nat} {cA : ClassId} {n : Nat} {f : Int → Int} (ha : ws[q0]? = some (b, .inl (cA, n, .inl (aI f)))) (ht : tys[t0]? = some (cA, .int)) {i : Int} {x : Int} (hin : 0 ≤ i ∧ i < (n : Int)) (hn : n < 2147483648) (hdg : decode cc pc = .ok (.iastore, 1)) (k : ∀ (H1 : Heap) (locs1 : List Loc), va_P D cl (ws.set q0 (b, .inl (cA, n, .inl (aI (upI f i x))))) H1 → va_D A (ws.set q0 (b, .inl (cA, n, .inl (aI (upI f i x))))) → va_S A H0 H1 locs1 → W p l e R s m args below meth c H1 locs1 cells slots Q (F0 m (pc + 1) ls (rest))) : W p l e R s m args below meth c H locs cells slots Q (F0 m pc ls (.int (jI x) :: .int (jI i) :: .ref b :: rest)) := by
  have e := aI_up (f := f) (v := x) hin hn
  refine va_iast hx hb hK hP hD hS q0 t0 ha ht (jI_in hin hn) hdg ?_
  rw [e]
  exact k
theorem jv_last (hx : p.tables.exec = Jvm.exec) (hb : c.code = cc) (hK : va_K D cl tys s) (hP : va_P D cl ws H) (hD : va_D A ws) (hS : va_S A H0 H locs) (q0 t0 : Nat) {b : Nat} {cA : ClassId} {n : Nat} {f : Int → Int} (ha : ws[q0]? = some (b, .inl (cA, n, .inr (.inl (aL f))))) (ht : tys[t0]? = some (cA, .long)) {i : Int} {x : Int} (hin : 0 ≤ i ∧ i < (n : Int)) (hn : n < 2147483648) (hdg : decode cc pc = .ok (.lastore, 1)) (k : ∀ (H1 : Heap) (locs1 : List Loc), va_P D cl (ws.set q0 (b, .inl (cA, n, .inr (.inl (aL (upI f i x)))))) H1 → va_D A (ws.set q0 (b, .inl (cA, n, .inr (.inl (aL (upI f i x)))))) → va_S A H0 H1 locs1 → W p l e R s m args below meth c H1 locs1 cells slots Q (F0 m (pc + 1) ls (rest))) : W p l e R s m args below meth c H locs cells slots Q (F0 m pc ls (.long (jL x) :: .int (jI i) :: .ref b :: rest)) := by
  have e := aL_up (f := f) (v := x) hin hn
  refine va_last hx hb hK hP hD hS q0 t0 ha ht (jI_in hin hn) hdg ?_
  rw [e]
  exact k
theorem jv_wast (hx : p.tables.exec = Jvm.exec) (hb : c.code = cc) (hK : va_K D cl tys s) (hP : va_P D cl ws H) (hD : va_D A ws) (hS : va_S A H0 H locs) (q0 t0 : Nat) {b : Nat} {cA : ClassId} {n : Nat} {f : Int → Int64} (ha : ws[q0]? = some (b, .inl (cA, n, .inr (.inl (aW f))))) (ht : tys[t0]? = some (cA, .long)) {i : Int} {x : Int64} (hin : 0 ≤ i ∧ i < (n : Int)) (hn : n < 2147483648) (hdg : decode cc pc = .ok (.lastore, 1)) (k : ∀ (H1 : Heap) (locs1 : List Loc), va_P D cl (ws.set q0 (b, .inl (cA, n, .inr (.inl (aW (upW f i x)))))) H1 → va_D A (ws.set q0 (b, .inl (cA, n, .inr (.inl (aW (upW f i x)))))) → va_S A H0 H1 locs1 → W p l e R s m args below meth c H1 locs1 cells slots Q (F0 m (pc + 1) ls (rest))) : W p l e R s m args below meth c H locs cells slots Q (F0 m pc ls (.long x :: .int (jI i) :: .ref b :: rest)) := by
  have e := aW_up (f := f) (v := x) hin hn
  refine va_last hx hb hK hP hD hS q0 t0 ha ht (jI_in hin hn) hdg ?_
  rw [e]
  exact k
theorem jv_zast (hx : p.tables.exec = Jvm.exec) (hb : c.code = cc) (hK : va_K D cl tys s) (hP : va_P D cl ws H) (hD : va_D A ws) (hS : va_S A H0 H locs) (q0 t0 : Nat) {b : Nat} {cA : ClassId} {n : Nat} {f : Int → Int} (ha : ws[q0]? = some (b, .inl (cA, n, .inl (aI f)))) (ht : tys[t0]? = some (cA, .boolean)) {i : Int} {x : Int} (hv : vp_nar .boolean (jI x) = jI x) (hin : 0 ≤ i ∧ i < (n : Int)) (hn : n < 2147483648) (hdg : decode cc pc = .ok (.bastore, 1)) (k : ∀ (H1 : Heap) (locs1 : List Loc), va_P D cl (ws.set q0 (b, .inl (cA, n, .inl (aI (upI f i x))))) H1 → va_D A (ws.set q0 (b, .inl (cA, n, .inl (aI (upI f i x))))) → va_S A H0 H1 locs1 → W p l e R s m args below meth c H1 locs1 cells slots Q (F0 m (pc + 1) ls (rest))) : W p l e R s m args below meth c H locs cells slots Q (F0 m pc ls (.int (jI x) :: .int (jI i) :: .ref b :: rest)) := by
  have e := aI_up (f := f) (v := x) hin hn
  refine va_zast hx hb hK hP hD hS q0 t0 ha ht (jI_in hin hn) hdg ?_
  rw [hv, e]
  exact k
theorem jv_alen (hx : p.tables.exec = Jvm.exec) (hb : c.code = cc) (hK : va_K D cl tys s) (hP : va_P D cl ws H) (q0 t0 : Nat) {b : Nat} {cA : ClassId} {x : vp_A} (ha : ws[q0]? = some (b, .inl (cA, x))) {ty : FieldType} (ht : tys[t0]? = some (cA, ty)) (hdg : decode cc pc = .ok (.arraylength, 1)) (k : W p l e R s m args below meth c H locs cells slots Q (F0 m (pc + 1) ls (.int (jI (x.1 : Int)) :: rest))) : W p l e R s m args below meth c H locs cells slots Q (F0 m pc ls (.ref b :: rest)) := va_alen hx hb hK hP q0 t0 ha ht (jI_nat x.1) hdg k
end JV
