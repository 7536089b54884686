/-! raw ints: signs and bits; the lowest bit; switches -/
def xb (v : Int32) (b : Nat) : Bool := v.toBitVec.getLsbD b
theorem xb_ext {x y : Int32} (h : ∀ b, b < 32 → xb x b = xb y b) : x = y := Int32.toBitVec_inj.mp (BitVec.eq_of_getLsbD_eq h)
theorem xb_0 (b : Nat) : xb (jI 0) b = false := by
  unfold xb
  show (0#32).getLsbD b = false
  exact BitVec.getLsbD_zero
theorem xb_nz {x : Int32} (h : x ≠ jI 0) : ∃ b, b < 32 ∧ xb x b = true := by
  refine Classical.byContradiction fun q => h (xb_ext fun b hb => ?_)
  rw [xb_0]
  cases c : xb x b
  · rfl
  · exact absurd ⟨b, hb, c⟩ q
theorem low_nat : ∀ (n v : Nat), v < 2 ^ n → 0 < v → ∃ k, v.testBit k = true ∧ (∀ j, j < k → v.testBit j = false) ∧ ∀ j, (v - 1).testBit j = if j < k then true else if j = k then false else v.testBit j
  | 0, v, h, h2 => by simp at h; omega
  | n + 1, v, h, h2 => by
    rw [Nat.pow_succ] at h
    rcases Nat.mod_two_eq_zero_or_one v with r | r
    · obtain ⟨k, h3, h4, h5⟩ := low_nat n (v / 2) (by omega) (by omega)
      refine ⟨k + 1, by rw [Nat.testBit_succ]; exact h3, fun j hj => ?_, fun j => ?_⟩
      · cases j with
        | zero => rw [Nat.testBit_zero]; exact decide_eq_false (by omega)
        | succ j => rw [Nat.testBit_succ]; exact h4 j (by omega)
      · cases j with
        | zero => rw [Nat.testBit_zero, if_pos (by omega)]; exact decide_eq_true (by omega)
        | succ j =>
          rw [Nat.testBit_succ, Nat.testBit_succ, show (v - 1) / 2 = v / 2 - 1 by omega, h5 j]
          simp only [Nat.add_lt_add_iff_right, Nat.add_right_cancel_iff]
    · refine ⟨0, by rw [Nat.testBit_zero]; exact decide_eq_true r, fun j hj => by omega, fun j => ?_⟩
      rw [if_neg (by omega)]
      cases j with
      | zero => rw [Nat.testBit_zero, if_pos rfl]; exact decide_eq_false (by omega)
      | succ j => rw [Nat.testBit_succ, if_neg (by omega), Nat.testBit_succ, show (v - 1) / 2 = v / 2 by omega]
theorem xb_ones : ∀ k j : Fin 32, xb (jI ((2 : Int) ^ k.val - 1)) j.val = decide (j.val < k.val) := by decide +kernel
theorem xb_m1 : ∀ j : Fin 32, xb (jI (-1)) j.val = true := by decide +kernel
/-- the ones below the lowest bit -/
theorem low_x {x : Int32} (h : x ≠ jI 0) : ∃ k : Nat, k < 32 ∧ xb x k = true ∧ (∀ j, j < k → xb x j = false) ∧ ((x ^^^ jI (-1)) &&& (x - jI 1)) = jI ((2 : Int) ^ k - 1) := by
  have h0 : 0 < x.toBitVec.toNat := by
    rcases Nat.eq_zero_or_pos x.toBitVec.toNat with q | q
    · exact absurd (Int32.toBitVec_inj.mp (BitVec.eq_of_toNat_eq q)) h
    · exact q
  have h1 : x.toBitVec.toNat < 2 ^ 32 := x.toBitVec.isLt
  obtain ⟨k, h3, h4, h5⟩ := low_nat 32 x.toBitVec.toNat h1 h0
  have hk : k < 32 := by
    rcases Nat.lt_or_ge k 32 with q | q
    · exact q
    · have : x.toBitVec.getLsbD k = false := BitVec.getLsbD_of_ge _ _ q
      rw [BitVec.getLsbD] at this
      rw [h3] at this
      exact Bool.noConfusion this
  refine ⟨k, hk, h3, h4, xb_ext fun j hj => ?_⟩
  rw [xb_ones ⟨k, hk⟩ ⟨j, hj⟩]
  have e2 : xb (x - jI 1) j = (x.toBitVec.toNat - 1).testBit j := by
    unfold xb
    rw [Int32.toBitVec_sub, BitVec.getLsbD]
    have e1 : (jI 1).toBitVec = 1#32 := by decide
    have e3 : (1#32).toNat = 1 := rfl
    rw [e1, BitVec.toNat_sub, e3]
    congr 1
    omega
  have e : xb ((x ^^^ jI (-1)) &&& (x - jI 1)) j = ((xb x j ^^ xb (jI (-1)) j) && xb (x - jI 1) j) := by
    unfold xb
    rw [Int32.toBitVec_and, BitVec.getLsbD_and, Int32.toBitVec_xor, BitVec.getLsbD_xor]
  rw [e, e2, h5 j, xb_m1 ⟨j, hj⟩]
  have e4 : xb x j = x.toBitVec.toNat.testBit j := rfl
  by_cases q : j < k
  · rw [if_pos q, e4, h4 j q, dec_t q]
    rfl
  · rw [if_neg q, dec_f q]
    by_cases q2 : j = k
    · rw [if_pos q2, Bool.and_false]
    · rw [if_neg q2, e4]
      cases x.toBitVec.toNat.testBit j <;> rfl
/-- a place of the search for the number of ones: j of them are left, n are told -/
def nz (lim : Nat) (k : Nat) (n i : Int) : Prop := ∃ j : Nat, 1 ≤ j ∧ j ≤ lim ∧ i = (2 : Int) ^ j - 1 ∧ n + j = k + 1
theorem nz_bd {lim k : Nat} {n i : Int} (hl : lim < 32) (h : nz lim k n i) : 1 ≤ i ∧ i ≤ 2147483647 := by
  obtain ⟨j, h1, h2, h3, h4⟩ := h
  have : ∀ j : Fin 32, 1 ≤ j.val → 1 ≤ (2 : Int) ^ j.val - 1 ∧ (2 : Int) ^ j.val - 1 ≤ 2147483647 := by decide
  rw [h3]
  exact this ⟨j, by omega⟩ h1
theorem nz_hi_k : ∀ h : Fin 5, ∀ j : Fin 32, (2 : Int) ^ (2 ^ h.val) < (2 : Int) ^ j.val - 1 → 2 ^ h.val < j.val ∧ ((2 : Int) ^ j.val - 1) / (2 : Int) ^ (2 ^ h.val) = (2 : Int) ^ (j.val - 2 ^ h.val) - 1 := by decide +kernel
theorem nz_lo_k : ∀ h : Fin 5, ∀ j : Fin 32, ¬ (2 : Int) ^ (2 ^ h.val) < (2 : Int) ^ j.val - 1 → j.val ≤ 2 ^ h.val := by decide +kernel
theorem nz_hi {lim k : Nat} {n i : Int} (h : nz lim k n i) (e w : Nat) (q : Int) (he : e < 5) (hw : 2 ^ e = w) (hq : (2 : Int) ^ w = q) (hlim : lim ≤ w + w) (hl : lim < 32) (hi : q < i) : nz w k (n + w) (i / q) := by
  obtain ⟨j, h1, h2, h3, h4⟩ := h
  have := nz_hi_k ⟨e, he⟩ ⟨j, by omega⟩
  simp only at this
  rw [hw, hq, ← h3] at this
  obtain ⟨a, b⟩ := this hi
  exact ⟨j - w, by omega, by omega, b, by omega⟩
theorem nz_lo {lim k : Nat} {n i : Int} (h : nz lim k n i) (e w : Nat) (q : Int) (he : e < 5) (hw : 2 ^ e = w) (hq : (2 : Int) ^ w = q) (hl : lim < 32) (hi : i ≤ q) : nz w k n i := by
  obtain ⟨j, h1, h2, h3, h4⟩ := h
  have := nz_lo_k ⟨e, he⟩ ⟨j, by omega⟩
  simp only at this
  rw [hw, hq, ← h3] at this
  have a := this (by omega)
  exact ⟨j, h1, a, h3, h4⟩
theorem nz_e {k : Nat} {n i : Int} (h : nz 2 k n i) : n + i / 2 = k := by
  obtain ⟨j, h1, h2, h3, h4⟩ := h
  rcases (by omega : j = 1 ∨ j = 2) with q | q
  · subst q
    have : i = 1 := h3
    omega
  · subst q
    have : i = 3 := h3
    omega
theorem nz_0 {k : Nat} (h : 1 ≤ k) (h2 : k ≤ 31) : nz 31 k 1 ((2 : Int) ^ k - 1) := ⟨k, h, h2, rfl, by omega⟩
theorem pw_pos {k : Nat} (hk : k < 32) : 0 ≤ (2 : Int) ^ k - 1 ∧ (2 : Int) ^ k - 1 ≤ 2147483647 ∧ (k = 0 ↔ (2 : Int) ^ k - 1 ≤ 0) := by
  have : ∀ j : Fin 32, 0 ≤ (2 : Int) ^ j.val - 1 ∧ (2 : Int) ^ j.val - 1 ≤ 2147483647 ∧ (j.val = 0 ↔ (2 : Int) ^ j.val - 1 ≤ 0) := by decide
  exact this ⟨k, hk⟩
/-- the halves of a word -/
theorem xb_lo (v : Int64) {b : Nat} (h : b < 32) : xb v.toInt32 b = wb v b := by
  unfold xb wb
  show (v.toBitVec.signExtend 32).getLsbD b = _
  rw [BitVec.getLsbD_signExtend, decide_eq_true h, Bool.true_and, if_pos (by omega)]
theorem xb_hi (v : Int64) {b : Nat} (h : b < 32) : xb (wSu v 32).toInt32 b = wb v (32 + b) := by
  rw [xb_lo _ h]
  unfold wb wSu
  have e : (jI 32).toInt64.toUInt64 &&& Int64.toUInt64 63 = 32 := by decide
  rw [e]
  show (v.toUInt64 >>> 32).toBitVec.getLsbD b = _
  rw [UInt64.toBitVec_shiftRight]
  show (v.toBitVec >>> ((32 : UInt64).toBitVec % 64)).getLsbD b = _
  have e2 : ((32 : UInt64).toBitVec % 64) = 32#64 := by decide
  rw [e2, BitVec.ushiftRight_eq', BitVec.getLsbD_ushiftRight]
  rfl
/-- the sign of an exclusive or -/
theorem xor_sg {a b : Int} (ha : rI a) (hb : 0 < b ∧ rI b) : (jI a ^^^ jI b).toInt < 0 ↔ a < 0 := by
  have h1 : (jI a ^^^ jI b).toBitVec.msb = ((jI a).toBitVec.msb ^^ (jI b).toBitVec.msb) := by rw [Int32.toBitVec_xor, BitVec.msb_xor]
  have h2 : ∀ x : Int32, (x.toBitVec.msb = true ↔ x.toInt < 0) := fun x => by
    rw [BitVec.msb_eq_toInt, decide_eq_true_iff]
    exact Iff.rfl
  have h3 : (jI b).toBitVec.msb = false := by
    cases c : (jI b).toBitVec.msb
    · rfl
    · have := (h2 _).mp c
      rw [jI_ti hb.2] at this
      omega
  rw [← h2, h1, h3, Bool.xor_false, h2, jI_ti ha]
theorem fdiv_lo {a b : Int} (ha : a < 0) (hb : 0 < b) (h : a.tdiv b * b ≠ a) : a.tdiv b - 1 = a / b := by
  rw [Int.tdiv_eq_ediv]
  rw [Int.tdiv_eq_ediv] at h
  have hs : b.sign = 1 := Int.sign_eq_one_of_pos hb
  by_cases q : b ∣ a
  · exfalso
    rw [if_pos (Or.inr q), Int.add_zero] at h
    exact h (Int.ediv_mul_cancel q)
  · have : ¬ (0 ≤ a ∨ b ∣ a) := fun r => r.elim (by omega) q
    rw [if_neg this, hs]
    omega
theorem fdiv_eq {a b : Int} (h : a.tdiv b * b = a) (hb : 0 < b) : a.tdiv b = a / b := by
  rw [Int.tdiv_eq_ediv]
  have : b ∣ a := ⟨a.tdiv b, by rw [Int.mul_comm]; exact h.symm⟩
  rw [if_pos (Or.inr this), Int.add_zero]
theorem tdiv_bd {a b : Int} (ha : rI a) (hb : 0 < b) : rI (a.tdiv b) := by
  have h := Int.natAbs_tdiv_le_natAbs a b
  have h2 : a.tdiv b ≠ -2147483648 ∨ a.tdiv b = -2147483648 := by omega
  rcases Int.lt_or_le a 0 with q | q
  · have h5 := Int.tdiv_nonneg (a := -a) (b := b) (by omega) (by omega)
    rw [Int.neg_tdiv] at h5
    omega
  · omega
theorem tdiv_mb {a b : Int} (ha : rI a) (hb : 0 < b) : rI (a.tdiv b * b) := by
  have h := Int.mul_tdiv_add_tmod a b
  rw [Int.mul_comm] at h
  rcases Int.lt_or_le a 0 with q | q
  · have h5 := Int.tdiv_nonneg (a := -a) (b := b) (by omega) (by omega)
    rw [Int.neg_tdiv] at h5
    have h6 := Int.tmod_nonneg (a := -a) b (by omega)
    rw [Int.neg_tmod] at h6
    have h7 : a.tdiv b * b ≤ 0 * b := Int.mul_le_mul_of_nonneg_right (by omega) (by omega)
    omega
  · have h5 := Int.tdiv_nonneg (a := a) (b := b) (by omega) (by omega)
    have h6 := Int.tmod_nonneg (a := a) b (by omega)
    have h7 : 0 ≤ a.tdiv b * b := Int.mul_nonneg h5 (by omega)
    omega
section JX
variable {p : Program} {l : Launch} {e : Env} {R : Room} {s : State} {m : MethodId} {args : Array Value} {below : List Frame} {meth : Method} {c : Code} {H : Heap} {locs : List Loc} {cells slots : Nat} {Q : State → Prop}
variable {cc : ByteArray} {pc : Nat} {ls : Array Slot} {rest : List Value}
theorem jx_if_ne (hx : p.tables.exec = Jvm.exec) (hb : c.code = cc) {x : Int32} {off : Int} {tgt : Nat} (hdg : decode cc pc = .ok (.ifCond .ne off, 3)) (ht : (pc : Int) + off = (tgt : Int)) (kt : x ≠ jI 0 → W p l e R s m args below meth c H locs cells slots Q (F0 m tgt ls (rest))) (kf : x = jI 0 → W p l e R s m args below meth c H locs cells slots Q (F0 m (pc + 3) ls (rest))) : W p l e R s m args below meth c H locs cells slots Q (F0 m pc ls (.int x :: rest)) := lv_if_ne hx hb hdg ht kt kf
theorem jx_if_ge (hx : p.tables.exec = Jvm.exec) (hb : c.code = cc) {x : Int32} {off : Int} {tgt : Nat} (hdg : decode cc pc = .ok (.ifCond .ge off, 3)) (ht : (pc : Int) + off = (tgt : Int)) (kt : ¬ x.toInt < 0 → W p l e R s m args below meth c H locs cells slots Q (F0 m tgt ls (rest))) (kf : x.toInt < 0 → W p l e R s m args below meth c H locs cells slots Q (F0 m (pc + 3) ls (rest))) : W p l e R s m args below meth c H locs cells slots Q (F0 m pc ls (.int x :: rest)) := by
  have h := jv_if_ge (p := p) (l := l) (e := e) (R := R) (s := s) (m := m) (args := args) (below := below) (meth := meth) (H := H) (locs := locs) (cells := cells) (slots := slots) (Q := Q) (ls := ls) (rest := rest) hx hb (rI_of x) hdg ht (fun q => kt (by omega)) (fun q => kf q)
  rw [jI_as] at h
  exact h
theorem jx_top {x y : Int32} (h : x = y) (k : W p l e R s m args below meth c H locs cells slots Q (F0 m pc ls (.int y :: rest))) : W p l e R s m args below meth c H locs cells slots Q (F0 m pc ls (.int x :: rest)) := by rw [h]; exact k
theorem jv_tabIn (hx : p.tables.exec = Jvm.exec) (hb : c.code = cc) {a dflt lo hi off : Int} {offs : Array Int} {len tgt : Nat} (ha : rI a) (hdg : decode cc pc = .ok (.tableswitch dflt lo hi offs, len)) (h : lo ≤ a ∧ a ≤ hi) (ho : offs[(a - lo).toNat]? = some off) (ht : (pc : Int) + off = (tgt : Int)) (k : W p l e R s m args below meth c H locs cells slots Q (F0 m tgt ls rest)) : W p l e R s m args below meth c H locs cells slots Q (F0 m pc ls (.int (jI a) :: rest)) :=
  lv_tableIn hx hb hdg (by rw [jI_ti ha]; omega) (by rw [jI_ti ha]; omega) (by rw [jI_ti ha]; exact ho) ht k
theorem jv_tabOut (hx : p.tables.exec = Jvm.exec) (hb : c.code = cc) {a dflt lo hi : Int} {offs : Array Int} {len tgt : Nat} (ha : rI a) (hdg : decode cc pc = .ok (.tableswitch dflt lo hi offs, len)) (h : a < lo ∨ hi < a) (ht : (pc : Int) + dflt = (tgt : Int)) (k : W p l e R s m args below meth c H locs cells slots Q (F0 m tgt ls rest)) : W p l e R s m args below meth c H locs cells slots Q (F0 m pc ls (.int (jI a) :: rest)) :=
  lv_tableOut hx hb hdg (by rw [jI_ti ha]; exact h) ht k
end JX
