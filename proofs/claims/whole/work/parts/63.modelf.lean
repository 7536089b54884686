/-! the model's pieces -/
theorem mpI_0 (rl rx ry rs : Int → Int) : mpI rl rx ry rs 0 [] := ⟨rfl, fun k q h => by simp at h⟩
theorem mpI_s {rl rx ry rs : Int → Int} {nq z0 z1 z2 z3 : Int} {LP : List jQ} {q : jQ} (h : mpI rl rx ry rs nq LP) (e0 : z0 = q.2.1) (e1 : z1 = q.2.2.1) (e2 : z2 = q.2.2.2.1) (e3 : q.2.2.2.2.1 = q.2.2.1 + z3) (e4 : q.2.2.2.2.2 = q.2.2.2.1 + z3) (hq : okQ q) : mpI (upI rl nq z0) (upI rx nq z1) (upI ry nq z2) (upI rs nq z3) (nq + 1) (LP ++ [q]) := by
  obtain ⟨h1, h2⟩ := h
  refine ⟨by rw [List.length_append, List.length_singleton]; omega, fun k d hk => ?_⟩
  rcases Nat.lt_or_ge k LP.length with c | c
  · rw [List.getElem?_append_left c] at hk
    obtain ⟨a0, a1, a2, a3, a4, a5⟩ := h2 k d hk
    have hne : (k : Int) ≠ nq := by omega
    exact ⟨(upI_ne rl z0 hne).trans a0, (upI_ne rx z1 hne).trans a1, (upI_ne ry z2 hne).trans a2, a3.trans (by rw [upI_ne rs z3 hne]), a4.trans (by rw [upI_ne rs z3 hne]), a5⟩
  · rw [List.getElem?_append_right c] at hk
    have hz0 : k - LP.length = 0 := by
      have := (List.getElem?_eq_some_iff.mp hk).1
      rw [List.length_singleton] at this
      omega
    rw [hz0] at hk
    have hd : d = q := (Option.some.inj hk).symm
    have hkn : (k : Int) = nq := by omega
    rw [hd, hkn]
    exact ⟨(upI_eq rl nq z0).trans e0, (upI_eq rx nq z1).trans e1, (upI_eq ry nq z2).trans e2, e3.trans (by rw [upI_eq rs nq z3]), e4.trans (by rw [upI_eq rs nq z3]), hq⟩
theorem kp4 {a0 a1 a2 a3 b0 b1 b2 b3 : Int → Int} {k j v0 v1 v2 v3 : Int} (hne : k ≠ j) (h : a0 k = b0 k ∧ a1 k = b1 k ∧ a2 k = b2 k ∧ a3 k = b3 k) : upI a0 j v0 k = b0 k ∧ upI a1 j v1 k = b1 k ∧ upI a2 j v2 k = b2 k ∧ upI a3 j v3 k = b3 k :=
  ⟨upI_k hne h.1, upI_k hne h.2.1, upI_k hne h.2.2.1, upI_k hne h.2.2.2⟩
