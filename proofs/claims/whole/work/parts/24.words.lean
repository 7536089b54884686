/-! words: their bits, and the rows of their instructions -/
def wb (v : Int64) (b : Nat) : Bool := v.toBitVec.getLsbD b
def wSl (x : Int64) (a : Int) : Int64 := x <<< ((jI a).toInt64 &&& 63)
def wSh (x : Int64) (a : Int) : Int64 := x >>> ((jI a).toInt64 &&& 63)
def wSu (x : Int64) (a : Int) : Int64 := (x.toUInt64 >>> ((jI a).toInt64.toUInt64 &&& Int64.toUInt64 63)).toInt64
theorem wb_and (x y : Int64) (b : Nat) : wb (x &&& y) b = (wb x b && wb y b) := by
  unfold wb; rw [Int64.toBitVec_and, BitVec.getLsbD_and]
theorem wb_or (x y : Int64) (b : Nat) : wb (x ||| y) b = (wb x b || wb y b) := by
  unfold wb; rw [Int64.toBitVec_or, BitVec.getLsbD_or]
theorem wb_xor (x y : Int64) (b : Nat) : wb (x ^^^ y) b = (wb x b ^^ wb y b) := by
  unfold wb; rw [Int64.toBitVec_xor, BitVec.getLsbD_xor]
theorem wb_m1 : ∀ b : Fin 64, wb (jL (-1)) b.val = true := by decide +kernel
theorem wb_0 (b : Nat) : wb (jL 0) b = false := by
  unfold wb
  show (0#64).getLsbD b = false
  exact BitVec.getLsbD_zero
theorem wb_hi (v : Int64) {b : Nat} (h : 64 ≤ b) : wb v b = false := BitVec.getLsbD_of_ge _ _ h
theorem wb_not (x : Int64) {b : Nat} (h : b < 64) : wb (x ^^^ jL (-1)) b = !wb x b := by
  rw [wb_xor, wb_m1 ⟨b, h⟩]
  cases wb x b <;> rfl
theorem wb_ext {x y : Int64} (h : ∀ b, b < 64 → wb x b = wb y b) : x = y := Int64.toBitVec_inj.mp (BitVec.eq_of_getLsbD_eq h)
theorem wb_nz {x : Int64} (h : x ≠ jL 0) : ∃ b, b < 64 ∧ wb x b = true := by
  refine Classical.byContradiction fun q => h (wb_ext fun b hb => ?_)
  rw [wb_0]
  cases c : wb x b
  · rfl
  · exact absurd ⟨b, hb, c⟩ q
theorem wb_zr {x : Int64} (h : x = jL 0) (b : Nat) : wb x b = false := by rw [h]; exact wb_0 b
theorem wb_ge_k : ∀ a b : Fin 64, wb (wSl (jL (-1)) (a.val : Int)) b.val = decide (a.val ≤ b.val) := by decide +kernel
theorem wb_su_k : ∀ a b : Fin 64, wb (wSu (jL (-1)) (a.val : Int)) b.val = decide (b.val + a.val < 64) := by decide +kernel
theorem wb_lt_k : ∀ a b : Fin 64, wb (wSl (jL 1) (a.val : Int) - jL 1) b.val = decide (b.val < a.val) := by decide +kernel
theorem wb_ge {a : Int} (ha : 0 ≤ a ∧ a < 64) {b : Nat} (hb : b < 64) : wb (wSl (jL (-1)) a) b = decide (a ≤ (b : Int)) := by
  have h := wb_ge_k ⟨a.toNat, by omega⟩ ⟨b, hb⟩
  simp only at h
  rw [show ((a.toNat : Nat) : Int) = a by omega] at h
  rw [h]
  exact decide_eq_decide.mpr (by omega)
theorem wb_su {a : Int} (ha : 0 ≤ a ∧ a < 64) {b : Nat} (hb : b < 64) : wb (wSu (jL (-1)) a) b = decide ((b : Int) + a < 64) := by
  have h := wb_su_k ⟨a.toNat, by omega⟩ ⟨b, hb⟩
  simp only at h
  rw [show ((a.toNat : Nat) : Int) = a by omega] at h
  rw [h]
  exact decide_eq_decide.mpr (by omega)
theorem wb_lt {a : Int} (ha : 0 ≤ a ∧ a < 64) {b : Nat} (hb : b < 64) : wb (wSl (jL 1) a - jL 1) b = decide ((b : Int) < a) := by
  have h := wb_lt_k ⟨a.toNat, by omega⟩ ⟨b, hb⟩
  simp only at h
  rw [show ((a.toNat : Nat) : Int) = a by omega] at h
  rw [h]
  exact decide_eq_decide.mpr (by omega)
theorem wSh_k : ∀ a : Fin 64, ((jI (a.val : Int)).toInt64 &&& 63).toBitVec = BitVec.ofNat 64 a.val := by decide +kernel
theorem wb_sh (x : Int64) {a : Int} (ha : 0 ≤ a ∧ a < 64) : (wSh x a &&& jL 1) = jL (if wb x a.toNat then 1 else 0) := by
  have h := wSh_k ⟨a.toNat, by omega⟩
  simp only at h
  rw [show ((a.toNat : Nat) : Int) = a by omega] at h
  have e1 : ∀ b : Fin 64, wb (jL 1) b.val = decide (b.val = 0) := by decide +kernel
  refine wb_ext fun b hb => ?_
  rw [wb_and, e1 ⟨b, hb⟩]
  by_cases q : b = 0
  · subst q
    have : wb (wSh x a) 0 = wb x a.toNat := by
      unfold wb wSh
      rw [Int64.toBitVec_shiftRight, h]
      have hsm : (BitVec.ofNat 64 a.toNat).smod 64 = BitVec.ofNat 64 a.toNat := by
        have : ∀ a : Fin 64, (BitVec.ofNat 64 a.val).smod 64 = BitVec.ofNat 64 a.val := by decide +kernel
        exact this ⟨a.toNat, by omega⟩
      rw [hsm]
      show (x.toBitVec.sshiftRight (BitVec.ofNat 64 a.toNat).toNat).getLsbD 0 = _
      rw [BitVec.toNat_ofNat, Nat.mod_eq_of_lt (by omega), BitVec.getLsbD_sshiftRight, Nat.add_zero, if_pos (by omega)]
      rfl
    rw [this]
    cases wb x a.toNat
    · exact (by decide : (false && decide (0 = 0)) = wb (jL (if false = true then 1 else 0)) 0)
    · exact (by decide : (true && decide (0 = 0)) = wb (jL (if true = true then 1 else 0)) 0)
  · have e : decide (b = 0) = false := decide_eq_false q
    rw [e, Bool.and_false]
    split
    · rw [e1 ⟨b, hb⟩]; exact (decide_eq_false q).symm
    · rw [wb_0]
section JW
variable {p : Program} {l : Launch} {e : Env} {R : Room} {s : State} {m : MethodId} {args : Array Value} {below : List Frame} {meth : Method} {c : Code} {H : Heap} {locs : List Loc} {cells slots : Nat} {Q : State → Prop}
variable {cc : ByteArray} {pc : Nat} {ls : Array Slot} {rest : List Value}
theorem jw_lcmp_eq (hx : p.tables.exec = Jvm.exec) (hb : c.code = cc) {x y : Int64} {off : Int} {tgt : Nat} (hdc : decode cc pc = .ok (.lcmp, 1)) (hdg : decode cc (pc + 1) = .ok (.ifCond .eq off, 3)) (ht : ((pc + 1 : Nat) : Int) + off = (tgt : Int)) (kt : x = y → W p l e R s m args below meth c H locs cells slots Q (F0 m tgt ls (rest))) (kf : x ≠ y → W p l e R s m args below meth c H locs cells slots Q (F0 m (pc + 4) ls (rest))) : W p l e R s m args below meth c H locs cells slots Q (F0 m pc ls (.long y :: .long x :: rest)) := by
  have h := jv_lcmp_eq (p := p) (l := l) (e := e) (R := R) (s := s) (m := m) (args := args) (below := below) (meth := meth) (H := H) (locs := locs) (cells := cells) (slots := slots) (Q := Q) (ls := ls) (rest := rest) hx hb (rL_of x) (rL_of y) hdc hdg ht (fun q => kt (Int64.toInt_inj.mp q)) (fun q => kf (fun r => q (by rw [r])))
  rw [jL_as, jL_as] at h
  exact h
theorem jw_lcmp_ne (hx : p.tables.exec = Jvm.exec) (hb : c.code = cc) {x y : Int64} {off : Int} {tgt : Nat} (hdc : decode cc pc = .ok (.lcmp, 1)) (hdg : decode cc (pc + 1) = .ok (.ifCond .ne off, 3)) (ht : ((pc + 1 : Nat) : Int) + off = (tgt : Int)) (kt : x ≠ y → W p l e R s m args below meth c H locs cells slots Q (F0 m tgt ls (rest))) (kf : x = y → W p l e R s m args below meth c H locs cells slots Q (F0 m (pc + 4) ls (rest))) : W p l e R s m args below meth c H locs cells slots Q (F0 m pc ls (.long y :: .long x :: rest)) := by
  have h := jv_lcmp_ne (p := p) (l := l) (e := e) (R := R) (s := s) (m := m) (args := args) (below := below) (meth := meth) (H := H) (locs := locs) (cells := cells) (slots := slots) (Q := Q) (ls := ls) (rest := rest) hx hb (rL_of x) (rL_of y) hdc hdg ht (fun q => kt (fun r => q (by rw [r]))) (fun q => kf (Int64.toInt_inj.mp q))
  rw [jL_as, jL_as] at h
  exact h
theorem jw_topW {x y : Int64} (h : x = y) (k : W p l e R s m args below meth c H locs cells slots Q (F0 m pc ls (.long y :: rest))) : W p l e R s m args below meth c H locs cells slots Q (F0 m pc ls (.long x :: rest)) := by rw [h]; exact k
theorem jw_nm {x : Int64} (k : ∀ z : Int64, z = x → W p l e R s m args below meth c H locs cells slots Q (F0 m pc ls (.long z :: rest))) : W p l e R s m args below meth c H locs cells slots Q (F0 m pc ls (.long x :: rest)) := k x rfl
end JW
section JS
variable {p : Program} {l : Launch} {e : Env} {R : Room} {s : State} {m : MethodId} {args : Array Value} {below : List Frame} {meth : Method} {c : Code} {H : Heap} {locs : List Loc} {cells slots : Nat} {Q : State → Prop}
variable {cc : ByteArray} {pc : Nat} {ls : Array Slot} {rest : List Value}
theorem jI_shr {a : Int} {k : Nat} {q : Int} (ha : 0 ≤ a ∧ rI a) (hk : ((jI (k : Int) &&& 31).toBitVec.smod 32).toNat = k) (hq : (2 : Int) ^ k = q) : jI a >>> (jI (k : Int) &&& 31) = jI (a / q) := by
  have h := pk_shr (jI a) (jI (k : Int) &&& 31) k hk
  rw [jI_ti ha.2, Int.shiftRight_eq_div_pow] at h
  rw [← jI_as (jI a >>> (jI (k : Int) &&& 31)), h, ← hq]
  norm_cast
theorem jI_ushr {a : Int} {k : Nat} {q : Int} (ha : 0 ≤ a ∧ rI a) (hk : (((jI (k : Int)).toUInt32 &&& Int32.toUInt32 31).toBitVec % 32).toNat = k) (hq : (2 : Int) ^ k = q) : ((jI a).toUInt32 >>> ((jI (k : Int)).toUInt32 &&& Int32.toUInt32 31)).toInt32 = jI (a / q) := by
  have h := pk_ushrN (n := a.toNat) (by omega) (jI (k : Int)) k hk
  have e1 : nI a.toNat = jI a := by
    show Int32.ofNat a.toNat = _
    rw [jI_nat, show ((a.toNat : Nat) : Int) = a by omega]
  have e2 : nI (a.toNat / 2 ^ k) = jI (a / q) := by
    show Int32.ofNat (a.toNat / 2 ^ k) = _
    rw [jI_nat, Int.natCast_ediv, show ((a.toNat : Nat) : Int) = a by omega, ← hq]
    norm_cast
  rw [e1, e2] at h
  exact h
theorem jv_ishrN (hx : p.tables.exec = Jvm.exec) (hb : c.code = cc) {a b : Int} (k9 : Nat) (q : Int) (hk9 : b = (k9 : Int)) (ha : 0 ≤ a ∧ rI a) (hk : ((jI (k9 : Int) &&& 31).toBitVec.smod 32).toNat = k9) (hq : (2 : Int) ^ k9 = q) (hdg : decode cc pc = .ok (.ishr, 1)) (k : W p l e R s m args below meth c H locs cells slots Q (F0 m (pc + 1) ls (.int (jI (a / q)) :: rest))) : W p l e R s m args below meth c H locs cells slots Q (F0 m pc ls (.int (jI b) :: .int (jI a) :: rest)) := by
  subst hk9
  refine lv_ishr hx hb hdg ?_
  rw [jI_shr ha hk hq]
  exact k
theorem jv_iushrN (hx : p.tables.exec = Jvm.exec) (hb : c.code = cc) {a b : Int} (k9 : Nat) (q : Int) (hk9 : b = (k9 : Int)) (ha : 0 ≤ a ∧ rI a) (hk : (((jI (k9 : Int)).toUInt32 &&& Int32.toUInt32 31).toBitVec % 32).toNat = k9) (hq : (2 : Int) ^ k9 = q) (hdg : decode cc pc = .ok (.iushr, 1)) (k : W p l e R s m args below meth c H locs cells slots Q (F0 m (pc + 1) ls (.int (jI (a / q)) :: rest))) : W p l e R s m args below meth c H locs cells slots Q (F0 m pc ls (.int (jI b) :: .int (jI a) :: rest)) := by
  subst hk9
  exact lv_iushr hx hb hdg (jI_ushr ha hk hq) k
end JS
