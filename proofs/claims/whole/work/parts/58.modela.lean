/-! the model's rows grow -/
theorem mtI_s {tn tl ta : Int → Int} {nd net layer v : Int} {TD : List (Int × Int × Int)} (h : mtI tn tl ta nd TD) (hn : 0 ≤ net ∧ net < 40) (hl : 0 ≤ layer ∧ layer < 64) (hv : 1 ≤ v ∧ v ≤ 1000000) : mtI (upI tn nd net) (upI tl nd layer) (upI ta nd v) (nd + 1) (TD ++ [(net, layer, v)]) := by
  obtain ⟨h1, h2⟩ := h
  refine ⟨by rw [List.length_append]; simp; omega, fun k d hk => ?_⟩
  rcases Nat.lt_or_ge k TD.length with c | c
  · rw [List.getElem?_append_left c] at hk
    rw [upI_ne _ _ (by omega), upI_ne _ _ (by omega), upI_ne _ _ (by omega)]
    exact h2 k d hk
  · rw [List.getElem?_append_right c] at hk
    have hz0 : k - TD.length = 0 := by
      have := (List.getElem?_eq_some_iff.mp hk).1
      simp at this
      omega
    rw [hz0] at hk
    cases hk
    rw [show (k : Int) = nd by omega, upI_eq, upI_eq, upI_eq]
    exact ⟨rfl, rfl, rfl, hl.1, hl.2, hv.1, hv.2, hn.1, hn.2⟩
theorem msI_s {sn sl bo : Int → Int} {ns net layer v0 v1 v2 v3 : Int} {L : List jQ} (h : msI sn sl bo ns L) (hn : 0 ≤ net ∧ net < 40) (hl : 0 ≤ layer ∧ layer < 64) (hv : (0 ≤ v0 ∧ v0 < v2 ∧ v2 ≤ 1000) ∧ (0 ≤ v1 ∧ v1 < v3 ∧ v3 ≤ 1000)) : msI (upI sn ns net) (upI sl ns layer) (upI (upI (upI (upI bo (4 * ns) v0) ((4 * ns) + 1) v1) ((4 * ns) + 2) v2) ((4 * ns) + 3) v3) (ns + 1) (L ++ [(net, layer, v0, v1, v2, v3)]) := by
  obtain ⟨h1, h2⟩ := h
  refine ⟨by rw [List.length_append]; simp; omega, fun k d hk => ?_⟩
  rcases Nat.lt_or_ge k L.length with c | c
  · rw [List.getElem?_append_left c] at hk
    have e : ∀ j : Int, 0 ≤ j → j ≤ 3 → upI (upI (upI (upI bo (4 * ns) v0) ((4 * ns) + 1) v1) ((4 * ns) + 2) v2) ((4 * ns) + 3) v3 (4 * (k : Int) + j) = bo (4 * (k : Int) + j) := fun j _ _ => by
      rw [upI_ne _ _ (by omega), upI_ne _ _ (by omega), upI_ne _ _ (by omega), upI_ne _ _ (by omega)]
    have e0 := e 0 (by omega) (by omega)
    rw [Int.add_zero] at e0
    rw [upI_ne _ _ (by omega), upI_ne _ _ (by omega), e0, e 1 (by omega) (by omega), e 2 (by omega) (by omega), e 3 (by omega) (by omega)]
    exact h2 k d hk
  · rw [List.getElem?_append_right c] at hk
    have hz0 : k - L.length = 0 := by
      have := (List.getElem?_eq_some_iff.mp hk).1
      simp at this
      omega
    rw [hz0] at hk
    cases hk
    rw [show (k : Int) = ns by omega, upI_eq, upI_eq]
    refine ⟨rfl, rfl, ?_, ?_, ?_, ?_, ?_⟩
    · rw [upI_ne _ _ (by omega), upI_ne _ _ (by omega), upI_ne _ _ (by omega), upI_eq]
    · rw [upI_ne _ _ (by omega), upI_ne _ _ (by omega), upI_eq]
    · rw [upI_ne _ _ (by omega), upI_eq]
    · rw [upI_eq]
    · unfold okQ
      simp only
      omega
