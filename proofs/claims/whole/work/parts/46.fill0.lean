/-! a shape's fresh area; the fill's steps -/
theorem ar_s {L : List jQ} {q : jQ} {net layer : Int} (hq : okQ q) (h1 : q.1 = net) (h2 : q.2.1 = layer) : ar (L ++ [q]) net layer = ar L net layer + ((q.2.2.2.2.1 - q.2.2.1) * (q.2.2.2.2.2 - q.2.2.2.1) - cm (covL (L.filter (onNL layer net))) q.2.2.1 q.2.2.2.2.1 q.2.2.2.1 q.2.2.2.2.2) := by
  unfold okQ at hq
  have hf : (L ++ [q]).filter (onNL layer net) = L.filter (onNL layer net) ++ [q] := by
    rw [List.filter_append, List.filter_cons_of_pos (show onNL layer net q = true from dec_t ⟨h2, Or.inr h1⟩)]
    rfl
  unfold ar
  rw [hf]
  have e1 : cm (covL (L.filter (onNL layer net) ++ [q])) 0 1000 0 1000 = cm (covL (L.filter (onNL layer net))) 0 1000 0 1000 + cm (fun x y => inQ q x y && !covL (L.filter (onNL layer net)) x y) 0 1000 0 1000 := by
    refine cm_or fun x y _ _ _ _ => bi_or ?_ ?_
    · rw [covL_app, covL_one]
      cases covL (L.filter (onNL layer net)) x y <;> cases inQ q x y <;> rfl
    · rintro ⟨a, b⟩
      rw [a, Bool.and_eq_true] at b
      exact Bool.noConfusion b.2
  have e2 : cm (fun x y => inQ q x y && !covL (L.filter (onNL layer net)) x y) 0 1000 0 1000 = cm (fun x y => !covL (L.filter (onNL layer net)) x y) q.2.2.1 q.2.2.2.2.1 q.2.2.2.1 q.2.2.2.2.2 := by
    rw [cm_in (a2 := q.2.2.1) (b2 := q.2.2.2.2.1) (c2 := q.2.2.2.1) (d2 := q.2.2.2.2.2) (by omega) (by omega) (by omega) (by omega) (by omega) (by omega) (fun x y _ _ _ _ p => by
      rw [Bool.and_eq_true] at p
      exact ⟨(inQ_iff.mp p.1).1, (inQ_iff.mp p.1).2.1, (inQ_iff.mp p.1).2.2⟩)]
    refine cm_cg fun x y a b c d => ?_
    rw [inQ_iff.mpr ⟨a, b, c, d⟩, Bool.true_and]
  have e3 : cm (fun _ _ => true) q.2.2.1 q.2.2.2.2.1 q.2.2.2.1 q.2.2.2.2.2 = cm (covL (L.filter (onNL layer net))) q.2.2.1 q.2.2.2.2.1 q.2.2.2.1 q.2.2.2.2.2 + cm (fun x y => !covL (L.filter (onNL layer net)) x y) q.2.2.1 q.2.2.2.2.1 q.2.2.2.1 q.2.2.2.2.2 := by
    refine cm_or fun x y _ _ _ _ => bi_or ?_ ?_
    · cases covL (L.filter (onNL layer net)) x y <;> rfl
    · rintro ⟨a, b⟩
      rw [a] at b
      exact Bool.noConfusion b
  have e4 := cm_al (P := fun _ _ => true) (a := q.2.2.1) (b := q.2.2.2.2.1) (c := q.2.2.2.1) (d := q.2.2.2.2.2) (by omega) (by omega) (fun _ _ _ _ _ _ => rfl)
  have e5 : (q.2.2.2.2.1 - q.2.2.1) * (q.2.2.2.2.2 - q.2.2.2.1) = (q.2.2.2.2.2 - q.2.2.2.1) * (q.2.2.2.2.1 - q.2.2.1) := Int.mul_comm _ _
  omega
theorem ar_o {L : List jQ} {q : jQ} {net layer : Int} (hn : 0 ≤ net) (h : ¬ (q.1 = net ∧ q.2.1 = layer)) : ar (L ++ [q]) net layer = ar L net layer := by
  unfold ar
  rw [List.filter_append, List.filter_cons_of_neg (show ¬ onNL layer net q = true from fun r => by
    have r := decide_eq_true_iff.mp r
    exact h ⟨r.2.elim (fun t => by omega) id, r.1⟩), List.filter_nil, List.append_nil]
theorem saI_s {sa : Int → Int} {ly net layer fr : Int} {L : List jQ} {q : jQ} (h : saI sa ly L) (hq : okQ q) (h1 : q.1 = net) (h2 : q.2.1 = layer) (hl : 0 ≤ layer ∧ layer < ly) (hf : fr = (q.2.2.2.2.1 - q.2.2.1) * (q.2.2.2.2.2 - q.2.2.2.1) - cm (covL (L.filter (onNL layer net))) q.2.2.1 q.2.2.2.2.1 q.2.2.2.1 q.2.2.2.2.2) : saI (upI sa (net * ly + layer) (sa (net * ly + layer) + fr)) ly (L ++ [q]) := fun n l a b c d => by
  by_cases r : n = net ∧ l = layer
  · obtain ⟨rfl, rfl⟩ := r
    rw [upI_eq, h n l a b c d, ar_s hq h1 h2, hf]
  · rw [upI_ne _ _ (fun t => r (idx_inj ⟨c, d⟩ hl t)), h n l a b c d, ar_o a (fun t => r ⟨t.1.symm.trans h1, t.2.symm.trans h2⟩)]
theorem flF_s {L LD LP : List jQ} {wl wh layer sz sp aw i : Int} (h : 0 ≤ i) : flF L LD wl wh layer sz sp aw LP (i + 1).toNat = ((tlF L LD wl layer sz sp aw i (flF L LD wl wh layer sz sp aw LP i.toNat).1).1, (flF L LD wl wh layer sz sp aw LP i.toNat).2 ++ (if (tlF L LD wl layer sz sp aw i (flF L LD wl wh layer sz sp aw LP i.toNat).1).2 < wl ∨ wh < (tlF L LD wl layer sz sp aw i (flF L LD wl wh layer sz sp aw LP i.toNat).1).2 then [i] else [])) := by
  rw [show (i + 1).toNat = i.toNat + 1 by omega]
  show (_, _) = _
  rw [show ((i.toNat : Nat) : Int) = i by omega]
/-- a row of numbers holds a list -/
def ttI (tt : Int → Int) (tc : Int) (T : List Int) : Prop := tc = (T.length : Int) ∧ ∀ (k : Nat) (v : Int), T[k]? = some v → tt k = v
theorem ttI_0 (tt : Int → Int) : ttI tt 0 [] := ⟨rfl, fun k v h => by simp at h⟩
theorem ttI_s {tt : Int → Int} {tc v : Int} {T : List Int} (h : ttI tt tc T) : ttI (upI tt tc v) (tc + 1) (T ++ [v]) := by
  obtain ⟨h1, h2⟩ := h
  refine ⟨by rw [List.length_append]; simp; omega, fun k w hk => ?_⟩
  rcases Nat.lt_or_ge k T.length with c | c
  · rw [List.getElem?_append_left c] at hk
    rw [upI_ne _ _ (by omega)]
    exact h2 k w hk
  · rw [List.getElem?_append_right c] at hk
    have hz0 : k - T.length = 0 := by
      have := (List.getElem?_eq_some_iff.mp hk).1
      simp at this
      omega
    rw [hz0] at hk
    cases hk
    rw [show (k : Int) = tc by omega, upI_eq]
