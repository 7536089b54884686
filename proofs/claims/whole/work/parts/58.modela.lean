/-! the model's rows grow -/
theorem mtI_s {tn tl ta : Int → Int} {nd net layer v : Int} {TD : List (Int × Int × Int)} (h : mtI tn tl ta nd TD) (hn : 0 ≤ net ∧ net < 40) (hl : 0 ≤ layer ∧ layer < 64) (hv : 1 ≤ v ∧ v ≤ 1000000) : mtI (upI tn nd net) (upI tl nd layer) (upI ta nd v) (nd + 1) (TD ++ [(net, layer, v)]) := by
  obtain ⟨h1, h2⟩ := h
  refine ⟨by rw [List.length_append]; simp; omega, fun k d hk => ?_⟩
  rcases Nat.lt_or_ge k TD.length with c | c
  · rw [List.getElem?_append_left c] at hk
    rw [upI_ne _ _ (by omega), upI_ne _ _ (by omega), upI_ne _ _ (by omega)]
    exact h2 k d hk
  · rw [List.getElem?_append_right c] at hk
    have hz0 : k - TD.length = 0 := by
      have := (List.getElem?_eq_some_iff.mp hk).1
      simp at this
      omega
    rw [hz0] at hk
    cases hk
    rw [show (k : Int) = nd by omega, upI_eq, upI_eq, upI_eq]
    exact ⟨rfl, rfl, rfl, hl.1, hl.2, hv.1, hv.2, hn.1, hn.2⟩
def bx4 (bo : Int → Int) (m v0 v1 v2 v3 : Int) : Int → Int := upI (upI (upI (upI bo m v0) (m + 1) v1) (m + 2) v2) (m + 3) v3
theorem bx4_lo (bo : Int → Int) {m j : Int} (v0 v1 v2 v3 : Int) (h : j < m) : bx4 bo m v0 v1 v2 v3 j = bo j := by
  unfold bx4
  rw [upI_ne _ _ (show j ≠ m + 3 by omega), upI_ne _ _ (show j ≠ m + 2 by omega), upI_ne _ _ (show j ≠ m + 1 by omega), upI_ne _ _ (show j ≠ m by omega)]
theorem bx4_0 (bo : Int → Int) (m v0 v1 v2 v3 : Int) : bx4 bo m v0 v1 v2 v3 m = v0 := by
  unfold bx4
  rw [upI_ne _ _ (show m ≠ m + 3 by omega), upI_ne _ _ (show m ≠ m + 2 by omega), upI_ne _ _ (show m ≠ m + 1 by omega)]
  exact upI_eq _ _ _
theorem bx4_1 (bo : Int → Int) (m v0 v1 v2 v3 : Int) : bx4 bo m v0 v1 v2 v3 (m + 1) = v1 := by
  unfold bx4
  rw [upI_ne _ _ (show m + 1 ≠ m + 3 by omega), upI_ne _ _ (show m + 1 ≠ m + 2 by omega)]
  exact upI_eq _ _ _
theorem bx4_2 (bo : Int → Int) (m v0 v1 v2 v3 : Int) : bx4 bo m v0 v1 v2 v3 (m + 2) = v2 := by
  unfold bx4
  rw [upI_ne _ _ (show m + 2 ≠ m + 3 by omega)]
  exact upI_eq _ _ _
theorem bx4_3 (bo : Int → Int) (m v0 v1 v2 v3 : Int) : bx4 bo m v0 v1 v2 v3 (m + 3) = v3 := upI_eq _ _ _
theorem msI_s {sn sl bo : Int → Int} {ns net layer v0 v1 v2 v3 : Int} {L : List jQ} (h : msI sn sl bo ns L) (hn : 0 ≤ net ∧ net < 40) (hl : 0 ≤ layer ∧ layer < 64) (hv : (0 ≤ v0 ∧ v0 < v2 ∧ v2 ≤ 1000) ∧ (0 ≤ v1 ∧ v1 < v3 ∧ v3 ≤ 1000)) : msI (upI sn ns net) (upI sl ns layer) (bx4 bo (4 * ns) v0 v1 v2 v3) (ns + 1) (L ++ [(net, layer, v0, v1, v2, v3)]) := by
  obtain ⟨h1, h2⟩ := h
  refine ⟨by rw [List.length_append, List.length_singleton]; omega, fun k d hk => ?_⟩
  rcases Nat.lt_or_ge k L.length with c | c
  · rw [List.getElem?_append_left c] at hk
    obtain ⟨a0, a1, a2, a3, a4, a5, a6⟩ := h2 k d hk
    refine ⟨(upI_ne sn net (show (k : Int) ≠ ns by omega)).trans a0, (upI_ne sl layer (show (k : Int) ≠ ns by omega)).trans a1, (bx4_lo bo v0 v1 v2 v3 (by omega)).trans a2, (bx4_lo bo v0 v1 v2 v3 (by omega)).trans a3, (bx4_lo bo v0 v1 v2 v3 (by omega)).trans a4, (bx4_lo bo v0 v1 v2 v3 (by omega)).trans a5, a6⟩
  · rw [List.getElem?_append_right c] at hk
    have hz0 : k - L.length = 0 := by
      have := (List.getElem?_eq_some_iff.mp hk).1
      rw [List.length_singleton] at this
      omega
    rw [hz0] at hk
    have hd : d = (net, layer, v0, v1, v2, v3) := (Option.some.inj hk).symm
    have hkn : (k : Int) = ns := by omega
    rw [hd, hkn]
    refine ⟨upI_eq _ _ _, upI_eq _ _ _, bx4_0 _ _ _ _ _ _, bx4_1 _ _ _ _ _ _, bx4_2 _ _ _ _ _ _, bx4_3 _ _ _ _ _ _, ?_⟩
    exact ⟨by show -1 ≤ net; omega, by show net < 40; omega, by show 0 ≤ layer; omega, by show layer < 64; omega, hv.1.1, hv.1.2.1, hv.1.2.2, hv.2.1, hv.2.2.1, hv.2.2.2⟩
