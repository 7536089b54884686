/-! sums along a row, the guard, the greatest common divisor's loop -/
theorem su_s (f : Int → Int) (b : Int) {i : Int} (h : 0 ≤ i) : su f b (i + 1).toNat = su f b i.toNat + f (b + i) := by
  rw [show (i + 1).toNat = i.toNat + 1 by omega]
  show su f b i.toNat + f (b + (i.toNat : Int)) = _
  rw [show ((i.toNat : Nat) : Int) = i by omega]
theorem su_bd {f : Int → Int} {b B : Int} (h : ∀ k, 0 ≤ f k ∧ f k ≤ B) : ∀ n : Nat, 0 ≤ su f b n ∧ su f b n ≤ n * B
  | 0 => by simp [su]
  | n + 1 => by
    have h1 := su_bd (b := b) h n
    have h2 := h (b + n)
    have e : ((n + 1 : Nat) : Int) * B = n * B + B := by rw [Int.natCast_add]; show ((n : Int) + 1) * B = _; rw [Int.add_mul, Int.one_mul]
    show 0 ≤ su f b n + f (b + n) ∧ su f b n + f (b + n) ≤ _
    rw [e]
    omega
theorem mul_bd {a b A B : Int} (ha : 0 ≤ a ∧ a ≤ A) (hb : 0 ≤ b ∧ b ≤ B) : 0 ≤ a * b ∧ a * b ≤ A * B :=
  ⟨Int.mul_nonneg ha.1 hb.1, Int.mul_le_mul ha.2 hb.2 hb.1 (by omega)⟩
theorem idx_ok {a b n l : Int} (ha : 0 ≤ a ∧ a < n) (hb : 0 ≤ b ∧ b < l) : 0 ≤ a * l + b ∧ a * l + b < n * l := by
  have h1 : 0 ≤ a * l := Int.mul_nonneg ha.1 (by omega)
  have h2 : (a + 1) * l ≤ n * l := Int.mul_le_mul_of_nonneg_right (by omega) (by omega)
  rw [Int.add_mul, Int.one_mul] at h2
  omega
def gua (ga da : Int → Int) (ly net layer : Int) : Int := ga net + 8 * su da (net * ly) (layer + 1).toNat
def over (ga da sa la lb : Int → Int) (ly net layer : Int) : Prop := 0 < ga net ∧ 0 < lb layer ∧ la layer * gua ga da ly net layer < su sa (net * ly) (layer + 1).toNat * lb layer
/-- a place of Euclid's loop: k steps done -/
def gst (u l a b k : Int) : Prop := 0 ≤ a ∧ 0 ≤ b ∧ a ≤ 1125899906842624 ∧ b ≤ 1125899906842624 ∧ Int.gcd a b = Int.gcd u l ∧ 0 ≤ k ∧ (0 < a ∨ 0 < b) ∧ (k = 0 ∨ (b < a ∧ a * b * 2 ^ k.toNat ≤ 2 ^ 101))
theorem gst_0 {u l : Int} (hu : 0 ≤ u ∧ u ≤ 1125899906842624) (hl : 0 < l ∧ l ≤ 1125899906842624) : gst u l u l 0 := ⟨hu.1, by omega, hu.2, hl.2, rfl, by omega, Or.inr hl.1, Or.inl rfl⟩
theorem gst_s {u l a b k : Int} (h : gst u l a b k) (hb : b ≠ 0) : gst u l b (a % b) (k + 1) := by
  obtain ⟨h1, h2, h3, h4, h5, h6, h7, h8⟩ := h
  have hb0 : 0 < b := by omega
  have r1 := Int.emod_nonneg a hb
  have r2 := Int.emod_lt_of_pos a hb0
  refine ⟨h2, r1, h4, by omega, ?_, by omega, Or.inl hb0, Or.inr ⟨r2, ?_⟩⟩
  · rw [← h5]
    show Int.gcd b (a % b) = Int.gcd a b
    rw [Int.gcd_comm b, Int.emod_def, Int.gcd_comm a b]
    rw [Int.gcd_sub_mul_left_left, Int.gcd_comm]
  · have e : (k + 1).toNat = k.toNat + 1 := by omega
    rw [e, Int.pow_succ]
    have hp : (0 : Int) < 2 ^ k.toNat := Int.pow_pos (by omega)
    rcases h8 with h8 | ⟨h8, h9⟩
    · subst h8
      have m1 : b * (a % b) ≤ 1125899906842624 * 1125899906842624 := Int.mul_le_mul h4 (by omega) r1 (by omega)
      have : (2 : Int) ^ (0 : Int).toNat * 2 = 2 := rfl
      rw [this]
      have : (2 : Int) ^ 101 = 1125899906842624 * 1125899906842624 * 2 := by decide
      rw [this]
      exact Int.mul_le_mul_of_nonneg_right m1 (by omega)
    · have hd : a = b * (a / b) + a % b := (Int.mul_ediv_add_emod a b).symm
      have hq : 1 ≤ a / b := by
        rcases Int.lt_or_le (a / b) 1 with q | q
        · have : b * (a / b) ≤ b * 0 := Int.mul_le_mul_of_nonneg_left (by omega) h2
          omega
        · exact q
      have h10 : b * 1 ≤ b * (a / b) := Int.mul_le_mul_of_nonneg_left hq h2
      have h11 : 2 * (a % b) ≤ a := by omega
      have h12 : b * (2 * (a % b)) ≤ b * a := Int.mul_le_mul_of_nonneg_left h11 h2
      have h13 : b * (a % b) * (2 ^ k.toNat * 2) = b * (2 * (a % b)) * 2 ^ k.toNat := by
        rw [Int.mul_comm (2 ^ k.toNat) 2, ← Int.mul_assoc, Int.mul_assoc b (a % b) 2, Int.mul_comm (a % b) 2]
      rw [h13]
      refine Int.le_trans (Int.mul_le_mul_of_nonneg_right h12 (by omega)) ?_
      rw [Int.mul_comm b a]
      exact h9
theorem gst_k {u l a b k : Int} (h : gst u l a b k) (hb : b ≠ 0) : k ≤ 101 := by
  obtain ⟨h1, h2, h3, h4, h5, h6, h7, h8⟩ := h
  rcases h8 with h8 | ⟨h8, h9⟩
  · omega
  · rcases Int.lt_or_le 101 k with q | q
    · exfalso
      have hp : (0 : Int) < 2 ^ k.toNat := Int.pow_pos (by omega)
      have m1 : 1 ≤ a * b := Int.mul_pos (by omega) (by omega)
      have m2 : 1 * 2 ^ k.toNat ≤ a * b * 2 ^ k.toNat := Int.mul_le_mul_of_nonneg_right m1 (by omega)
      have m3 : (2 : Int) ^ 102 ≤ 2 ^ k.toNat := by
        have : (2 : Nat) ^ 102 ≤ 2 ^ k.toNat := Nat.pow_le_pow_right (by omega) (by omega)
        exact_mod_cast this
      have m4 : (2 : Int) ^ 102 = 2 * 2 ^ 101 := by decide
      omega
    · exact q
theorem gst_e {u l a : Int} {k : Int} (h : gst u l a 0 k) : a = (Int.gcd u l : Int) ∧ 0 < a := by
  obtain ⟨h1, h2, h3, h4, h5, h6, h7, h8⟩ := h
  have e : Int.gcd a 0 = a.natAbs := Int.gcd_zero_right a
  rw [e] at h5
  omega
def lowt (u l part : Int) : Int := (if part = 0 then u else l) / (Int.gcd u l : Int)
