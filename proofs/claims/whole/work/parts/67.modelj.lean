/-! the model fills a tile -/
theorem allF_from {ad9 : Int → Int → jQ} {B : Int → Int → Bool} {wt a9 : Int} {w : Nat} {st st2 : jF} {n : Nat} (h : allF ad9 B wt a9 w n st = st2) (hs : ¬ (st2.2 < wt ∧ st2.1.length < 1500)) : ∀ k : Nat, allF ad9 B wt a9 w (n + k) st = st2
  | 0 => h
  | k + 1 => by
    show rowF ad9 B wt a9 ((n + k : Nat) : Int) w (allF ad9 B wt a9 w (n + k) st) = st2
    rw [allF_from h hs k]
    have := rowF_stop (ad9 := ad9) (B := B) (wt := wt) (a9 := a9) (j := ((n + k : Nat) : Int)) (st := st2) (st2 := st2) (n := 0) rfl hs w
    rw [Nat.zero_add] at this
    exact this
theorem all_stop {ad9 : Int → Int → jQ} {B : Int → Int → Bool} {wt a9 i j : Int} {w : Nat} {st S T : jF} (hj : 0 ≤ j ∧ j < (w : Int)) (hi : 0 ≤ i ∧ i ≤ (w : Int)) (h1 : T = allF ad9 B wt a9 w j.toNat st) (h2 : S = rowF ad9 B wt a9 j i.toNat T) (hs : ¬ (S.2 < wt ∧ S.1.length < 1500)) : allF ad9 B wt a9 w w st = S := by
  have h3 : rowF ad9 B wt a9 j w T = S := by
    have := rowF_stop h2.symm hs (w - i.toNat)
    rw [show i.toNat + (w - i.toNat) = w by omega] at this
    exact this
  have h4 : allF ad9 B wt a9 w (j + 1).toNat st = S := by rw [allF_s hj.1, ← h1]; exact h3
  have h5 := allF_from h4 hs (w - (j + 1).toNat)
  rw [show (j + 1).toNat + (w - (j + 1).toNat) = w by omega] at h5
  exact h5
theorem tsd_eq {sz sp : Int} (h : 4 ≤ sz ∧ sz ≤ 100) (h2 : 0 ≤ sp ∧ sp ≤ 100) : tsd sz sp = (200 - sz) / (sz + sp) + 1 ∧ 1 ≤ tsd sz sp ∧ tsd sz sp ≤ 50 := by
  unfold tsd
  rw [show max 1 (sz + sp) = sz + sp by omega]
  have h3 := Int.ediv_nonneg (a := 200 - sz) (b := sz + sp) (by omega) (by omega)
  have h4 : (200 - sz) / (sz + sp) ≤ 49 := by
    rcases Int.lt_or_le 49 ((200 - sz) / (sz + sp)) with q | q
    · have := (fl_hi (a := 200 - sz) (p := sz + sp) (i := 50) (by omega)).mp (by omega)
      omega
    · exact q
  omega
