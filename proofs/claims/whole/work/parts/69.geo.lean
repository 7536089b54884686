/-! the geometry of a fill -/
theorem lcv_app (L M P : List jQ) (layer : Int) (X : List jQ) : lcv L M (P ++ X) layer = lcv L M P layer ++ X.filter (onNL layer (-1)) := by
  unfold lcv
  rw [List.filter_append, ← List.append_assoc]
theorem cov_app_f (L M P X : List jQ) (layer x y : Int) : covL (lcv L M (P ++ X) layer) x y = (covL (lcv L M P layer) x y || covL (X.filter (onNL layer (-1))) x y) := by rw [lcv_app, covL_app]
theorem covL_no {X : List jQ} {x y : Int} (h : ∀ q ∈ X, inQ q x y = false) : covL X x y = false := by
  cases c : covL X x y
  · rfl
  · obtain ⟨q, hq, hi⟩ := covL_iff.mp c
    rw [h q hq] at hi
    exact Bool.noConfusion hi
/-- one square more, apart from all that is there -/
theorem wcn_s {L M P : List jQ} {layer x y px py sz : Int} (hb : x ≤ px ∧ px + sz ≤ x + 200 ∧ y ≤ py ∧ py + sz ≤ y + 200 ∧ 0 ≤ sz) (h : ∀ u v, px ≤ u → u < px + sz → py ≤ v → v < py + sz → covL (lcv L M P layer) u v = false) : wcn L M (P ++ [pce layer px py sz]) layer x y = wcn L M P layer x y + sz * sz := by
  unfold wcn
  have hf : [pce layer px py sz].filter (onNL layer (-1)) = [pce layer px py sz] := by
    rw [List.filter_cons_of_pos (show onNL layer (-1) (pce layer px py sz) = true from dec_t ⟨rfl, Or.inl rfl⟩)]
    rfl
  have e1 : cm (covL (lcv L M (P ++ [pce layer px py sz]) layer)) x (x + 200) y (y + 200) = cm (covL (lcv L M P layer)) x (x + 200) y (y + 200) + cm (inQ (pce layer px py sz)) x (x + 200) y (y + 200) := by
    refine cm_or fun u v _ _ _ _ => bi_or ?_ ?_
    · rw [cov_app_f, hf, covL_one]
    · rintro ⟨a, b⟩
      have b := inQ_iff.mp b
      have := h u v b.1 b.2.1 b.2.2.1 b.2.2.2
      rw [this] at a
      exact Bool.noConfusion a
  have e2 : cm (inQ (pce layer px py sz)) x (x + 200) y (y + 200) = cm (inQ (pce layer px py sz)) px (px + sz) py (py + sz) :=
    cm_in hb.1 (by omega) hb.2.1 hb.2.2.1 (by omega) hb.2.2.2.1 (fun u v _ _ _ _ p => inQ_iff.mp p)
  have e3 : cm (inQ (pce layer px py sz)) px (px + sz) py (py + sz) = (py + sz - py) * (px + sz - px) := cm_al (by omega) (by omega) (fun u v a b c d => inQ_iff.mpr ⟨a, b, c, d⟩)
  rw [show py + sz - py = sz by omega, show px + sz - px = sz by omega] at e3
  omega
def cel (layer x y pt sz i j : Int) : jQ := pce layer (x + i * pt) (y + j * pt) sz
/-- what a state of a tile's fill says -/
def flI (L M P : List jQ) (layer x y pt sz i j : Int) (st : jF) : Prop := st.2 = wcn L M st.1 layer x y ∧ ∃ X, st.1 = P ++ X ∧ ∀ q ∈ X, ∃ i2 j2, q = cel layer x y pt sz i2 j2 ∧ (0 ≤ i2 ∧ i2 * pt ≤ 200 - sz ∧ 0 ≤ j2 ∧ j2 * pt ≤ 200 - sz) ∧ (j2 < j ∨ (j2 = j ∧ i2 < i))
theorem cel_ap {layer x y pt sz i j i2 j2 u v : Int} (hp : sz ≤ pt) (h0 : 0 ≤ sz) (h : j2 < j ∨ (j2 = j ∧ i2 < i)) (hu : x + i * pt ≤ u ∧ u < x + i * pt + sz) (hv : y + j * pt ≤ v ∧ v < y + j * pt + sz) : inQ (cel layer x y pt sz i2 j2) u v = false := by
  refine dec_f fun r => ?_
  have r1 : x + i2 * pt ≤ u := r.1
  have r2 : u < x + i2 * pt + sz := r.2.1
  have r3 : y + j2 * pt ≤ v := r.2.2.1
  have r4 : v < y + j2 * pt + sz := r.2.2.2
  rcases h with h | ⟨h, h2⟩
  · have := Int.mul_le_mul_of_nonneg_right (a := j2 + 1) (b := j) (c := pt) (by omega) (by omega)
    rw [Int.add_mul, Int.one_mul] at this
    omega
  · have := Int.mul_le_mul_of_nonneg_right (a := i2 + 1) (b := i) (c := pt) (by omega) (by omega)
    rw [Int.add_mul, Int.one_mul] at this
    omega
theorem bBl_ap {x y sz pt aw sp layer i j u v : Int} {L M P : List jQ} (h : bBl x y sz pt aw sp L M P layer i j = false) (ha : 0 ≤ aw ∧ 0 ≤ sp) (hu : x + i * pt ≤ u ∧ u < x + i * pt + sz) (hv : y + j * pt ≤ v ∧ v < y + j * pt + sz) : covL (lcv L M P layer) u v = false := by
  have key : ∀ (gr : Int) (Q : List jQ), 0 ≤ gr → gta x y sz pt gr (Q.filter (onL layer)) i j = false → covL (Q.filter (onNL layer (-1))) u v = false := fun gr Q hg hh => covL_no fun q hq => by
    rw [onNL_all] at hq
    cases c : inQ q u v
    · rfl
    · have c := inQ_iff.mp c
      have : gta x y sz pt gr (Q.filter (onL layer)) i j = true := List.any_eq_true.mpr ⟨q, hq, dec_t (by omega)⟩
      rw [hh] at this
      exact Bool.noConfusion this
  unfold bBl at h
  rw [Bool.or_eq_false_iff, Bool.or_eq_false_iff, Bool.or_eq_false_iff] at h
  obtain ⟨⟨⟨_, h1⟩, h2⟩, h3⟩ := h
  unfold lcv
  rw [covL_app, covL_app, covL_app, covL_nil, key aw L ha.1 h1, key aw M ha.1 h2, key sp P ha.2 h3]
  rfl
theorem flI_s {L M P : List jQ} {layer x y pt sz aw sp wt i j : Int} {st : jF} (h : flI L M P layer x y pt sz i j st) (hs : 0 ≤ sz ∧ sz ≤ pt) (ha : 0 ≤ aw ∧ 0 ≤ sp) (hi : 0 ≤ i ∧ i * pt ≤ 200 - sz) (hj : 0 ≤ j ∧ j * pt ≤ 200 - sz) : flI L M P layer x y pt sz (i + 1) j (stp9 (fun i j => pce layer (x + i * pt) (y + j * pt) sz) (bBl x y sz pt aw sp L M P layer) wt (sz * sz) st i j) := by
  obtain ⟨h1, X, h2, h3⟩ := h
  have hw : ∀ q ∈ X, ∃ i2 j2, q = cel layer x y pt sz i2 j2 ∧ (0 ≤ i2 ∧ i2 * pt ≤ 200 - sz ∧ 0 ≤ j2 ∧ j2 * pt ≤ 200 - sz) ∧ (j2 < j ∨ (j2 = j ∧ i2 < i + 1)) := fun q hq => by
    obtain ⟨i2, j2, a, b, c⟩ := h3 q hq
    exact ⟨i2, j2, a, b, by omega⟩
  by_cases c : st.2 < wt ∧ st.1.length < 1500 ∧ bBl x y sz pt aw sp L M P layer i j = false
  · rw [stp9_go c]
    have hi0 : 0 ≤ i * pt := Int.mul_nonneg hi.1 (by omega)
    have hj0 : 0 ≤ j * pt := Int.mul_nonneg hj.1 (by omega)
    refine ⟨?_, X ++ [pce layer (x + i * pt) (y + j * pt) sz], ?_, fun q hq => ?_⟩
    · show st.2 + sz * sz = wcn L M (st.1 ++ [pce layer (x + i * pt) (y + j * pt) sz]) layer x y
      rw [wcn_s (by omega) (fun u v a b c9 d => ?_), h1]
      rw [h2, cov_app_f, bBl_ap c.2.2 ha ⟨a, b⟩ ⟨c9, d⟩, Bool.false_or]
      refine covL_no fun q hq => ?_
      obtain ⟨i2, j2, e, _, f⟩ := h3 q (List.mem_filter.mp hq).1
      rw [e]
      exact cel_ap hs.2 hs.1 f ⟨a, b⟩ ⟨c9, d⟩
    · show st.1 ++ [pce layer (x + i * pt) (y + j * pt) sz] = _
      rw [h2, List.append_assoc]
    · rcases List.mem_append.mp hq with r | r
      · exact hw q r
      · exact ⟨i, j, List.mem_singleton.mp r, ⟨hi.1, hi.2, hj.1, hj.2⟩, Or.inr ⟨rfl, by omega⟩⟩
  · rw [stp9_stop c]
    exact ⟨h1, X, h2, hw⟩
