/-! what the law's loop needs of the abstract values -/
theorem wb_one_k : ∀ a b : Fin 64, wb (wSl (jL 1) (a.val : Int)) b.val = decide (b.val = a.val) := by decide +kernel
theorem wd_ex (P : Nat → Bool) : ∃ v : Int64, ∀ b, b < 64 → wb v b = P b := by
  have key : ∀ n : Nat, n ≤ 64 → ∃ v : Int64, ∀ b, b < 64 → wb v b = (P b && decide (b < n)) := by
    intro n
    induction n with
    | zero => exact fun _ => ⟨jL 0, fun b _ => by rw [wb_0]; simp⟩
    | succ n ih =>
      intro hn
      obtain ⟨v, hv⟩ := ih (by omega)
      by_cases hp : P n = true
      · refine ⟨v ||| wSl (jL 1) (n : Int), fun b hb => ?_⟩
        rw [wb_or, hv b hb]
        have := wb_one_k ⟨n, by omega⟩ ⟨b, hb⟩
        simp only at this
        rw [this]
        by_cases e : b = n
        · subst e
          rw [hp]
          simp
        · rw [decide_eq_false e, Bool.or_false]
          congr 1
          exact decide_eq_decide.mpr (by omega)
      · refine ⟨v, fun b hb => ?_⟩
        rw [hv b hb]
        by_cases e : b = n
        · subst e
          cases hq : P b
          · rfl
          · exact absurd hq hp
        · congr 1
          exact decide_eq_decide.mpr (by omega)
  obtain ⟨v, hv⟩ := key 64 (by omega)
  exact ⟨v, fun b hb => by rw [hv b hb, decide_eq_true hb, Bool.and_true]⟩
theorem st_ex (BL : List jQ) : ∃ f : Int → Int64, stI f BL := by
  have h : ∀ k : Int, ∃ v : Int64, ∀ b, b < 64 → wb v b = brd BL (64 * (k % 16) + (b : Int)) (k / 16) := fun k => wd_ex _
  refine ⟨fun k => (h k).choose, fun x y a b c d => ?_⟩
  unfold mk
  rw [(h (16 * y + x / 64)).choose_spec (x % 64).toNat (by omega)]
  congr 1 <;> omega
theorem bars_o {L M P : List jQ} {q : jQ} (h : q.2.1 ≠ 0) : bars (L ++ [q]) M P = bars L M P := by
  unfold bars
  rw [List.filter_append, List.filter_cons_of_neg (by rw [onL_f h]; decide), List.filter_nil, List.append_nil]
/-- a filter that no piece passes doesn't see the pieces put -/
theorem stp9_f {f : jQ → Bool} {ad9 : Int → Int → jQ} {B : Int → Int → Bool} {wt a9 : Int} (hf : ∀ i j, f (ad9 i j) = false) (st : jF) (i j : Int) : (stp9 ad9 B wt a9 st i j).1.filter f = st.1.filter f := by
  unfold stp9
  split
  · show (st.1 ++ [ad9 i j]).filter f = _
    rw [List.filter_append, List.filter_cons_of_neg (by rw [hf]; decide), List.filter_nil, List.append_nil]
  · rfl
theorem rowF_f {f : jQ → Bool} {ad9 : Int → Int → jQ} {B : Int → Int → Bool} {wt a9 j : Int} (hf : ∀ i j, f (ad9 i j) = false) (st : jF) : ∀ n : Nat, (rowF ad9 B wt a9 j n st).1.filter f = st.1.filter f
  | 0 => rfl
  | n + 1 => by
    show (stp9 ad9 B wt a9 (rowF ad9 B wt a9 j n st) n j).1.filter f = _
    rw [stp9_f hf, rowF_f hf st n]
theorem allF_f {f : jQ → Bool} {ad9 : Int → Int → jQ} {B : Int → Int → Bool} {wt a9 : Int} {w : Nat} (hf : ∀ i j, f (ad9 i j) = false) (st : jF) : ∀ n : Nat, (allF ad9 B wt a9 w n st).1.filter f = st.1.filter f
  | 0 => rfl
  | n + 1 => by
    show (rowF ad9 B wt a9 n w (allF ad9 B wt a9 w n st)).1.filter f = _
    rw [rowF_f hf, allF_f hf st n]
theorem flF_f {f : jQ → Bool} {L LD LP : List jQ} {wl wh layer sz sp aw : Int} (hf : ∀ a b, f (pce layer a b sz) = false) : ∀ n : Nat, (flF L LD wl wh layer sz sp aw LP n).1.filter f = LP.filter f
  | 0 => rfl
  | n + 1 => by
    show (tlF L LD wl layer sz sp aw n (flF L LD wl wh layer sz sp aw LP n).1).1.filter f = _
    unfold tlF
    rw [allF_f (fun i j => hf _ _)]
    exact flF_f hf n
theorem flF_0 {L LD LP : List jQ} {wl wh layer sz sp aw : Int} (h : layer ≠ 0) (n : Nat) : (flF L LD wl wh layer sz sp aw (LP.filter (offL layer)) n).1.filter (onL 0) = LP.filter (onL 0) := by
  rw [flF_f (fun a b => onL_f (show (pce layer a b sz).2.1 ≠ 0 from h)), List.filter_filter]
  refine List.filter_congr fun q _ => ?_
  by_cases e : q.2.1 = 0
  · rw [onL_t e, offL_t (by omega)]
    rfl
  · rw [onL_f e]
    rfl
theorem dI_sh {dn dl dx dy du dv ds da : Int → Int} {dz ly td kn : Int} {cf : Int → Int64} {L P : List jQ} {TD : List (Int × Int × Int)} {DD : List jD} (q : jQ) (h : ∃ f9, dI dn dl dx dy du dv dz ds da f9 ly td L P TD DD ∧ (kn = 1 → f9 = cf)) : ∃ f9, dI dn dl dx dy du dv dz ds da f9 ly td (L ++ [q]) P TD DD ∧ ((if q.2.1 = 0 then 0 else kn) = 1 → f9 = cf) := by
  obtain ⟨f9, ⟨g1, g2, g3, g4, g5, g6, g7⟩, h2⟩ := h
  by_cases e : q.2.1 = 0
  · obtain ⟨f8, h8⟩ := st_ex (bars (L ++ [q]) (DD.map fun d => d.1) P)
    exact ⟨f8, ⟨g1, g2, g3, g4, g5, g6, h8⟩, by rw [if_pos e]; intro h9; exact absurd h9 (by decide)⟩
  · exact ⟨f9, ⟨g1, g2, g3, g4, g5, g6, by rw [bars_o e]; exact g7⟩, by rw [if_neg e]; exact h2⟩
theorem dI_fl {dn dl dx dy du dv ds da : Int → Int} {dz ly td kn layer : Int} {cf : Int → Int64} {L P P2 : List jQ} {TD : List (Int × Int × Int)} {DD : List jD} (h : ∃ f9, dI dn dl dx dy du dv dz ds da f9 ly td L P TD DD ∧ (kn = 1 → f9 = cf)) (hp : layer ≠ 0 → P2.filter (onL 0) = P.filter (onL 0)) : ∃ f9, dI dn dl dx dy du dv dz ds da f9 ly td L P2 TD DD ∧ ((if layer = 0 then 0 else kn) = 1 → f9 = cf) := by
  obtain ⟨f9, ⟨g1, g2, g3, g4, g5, g6, g7⟩, h2⟩ := h
  by_cases e : layer = 0
  · obtain ⟨f8, h8⟩ := st_ex (bars L (DD.map fun d => d.1) P2)
    exact ⟨f8, ⟨g1, g2, g3, g4, g5, g6, h8⟩, by rw [if_pos e]; intro h9; exact absurd h9 (by decide)⟩
  · refine ⟨f9, ⟨g1, g2, g3, g4, g5, g6, ?_⟩, by rw [if_neg e]; exact h2⟩
    unfold bars at g7 ⊢
    rw [hp e]
    exact g7
theorem dI_td {dn dl dx dy du dv ds da : Int → Int} {dz ly td kn net layer v : Int} {cf : Int → Int64} {L P : List jQ} {TD : List (Int × Int × Int)} {DD : List jD} (h : ∃ f9, dI dn dl dx dy du dv dz ds da f9 ly td L P TD DD ∧ (kn = 1 → f9 = cf)) (hl : 0 ≤ layer ∧ layer < ly) (hv : 1 ≤ v ∧ v ≤ 1000000) : ∃ f9, dI dn dl dx dy du dv dz ds (upI da (net * ly + layer) (da (net * ly + layer) + v)) f9 ly (td + 1) L P (TD ++ [(net, layer, v)]) DD ∧ (kn = 1 → f9 = cf) := by
  obtain ⟨f9, ⟨g1, g2, g3, g4, g5, g6, g7⟩, h2⟩ := h
  refine ⟨f9, ⟨g1, g2, g3, daI_t g4 hl, g5, fun k => ?_, g7⟩, h2⟩
  have h6 := g6 k
  have h7 := g6 (net * ly + layer)
  rw [upI_ap]
  split <;> omega
theorem sa_sh {sa : Int → Int} {ly net layer fr : Int} {L : List jQ} {q : jQ} (hb : ∀ k, 0 ≤ sa k ∧ sa k ≤ 1000000) (h : saI (upI sa (net * ly + layer) (sa (net * ly + layer) + fr)) ly (L ++ [q])) (hn : 0 ≤ net ∧ net < 40) (hl : 0 ≤ layer ∧ layer < ly) : ∀ k, 0 ≤ upI sa (net * ly + layer) (sa (net * ly + layer) + fr) k ∧ upI sa (net * ly + layer) (sa (net * ly + layer) + fr) k ≤ 1000000 := by
  intro k
  by_cases e : k = net * ly + layer
  · subst e
    rw [h net layer hn.1 hn.2 hl.1 hl.2]
    exact ar_bd _ _ _
  · rw [upI_ne _ _ e]
    exact hb k
theorem up_bd {f : Int → Int} {i v a b : Int} (h : ∀ k, a ≤ f k ∧ f k ≤ b) (hv : a ≤ v ∧ v ≤ b) : ∀ k, a ≤ upI f i v k ∧ upI f i v k ≤ b := by
  intro k
  rw [upI_ap]
  split
  · exact hv
  · exact h k
theorem tt_eq {tt t2 : Int → Int} {tc tq k : Int} {T : List Int} (h : ttI tt tc T) (h2 : ttI t2 tq T) : (if k < tc then tt k else -1) = (if k < tq then t2 k else -1) ∨ k < 0 := by
  obtain ⟨e1, h1⟩ := h
  obtain ⟨e2, h3⟩ := h2
  by_cases hk : k < 0
  · exact Or.inr hk
  · refine Or.inl ?_
    by_cases hq : k < tc
    · rw [if_pos hq, if_pos (by omega)]
      have hl : k.toNat < T.length := by omega
      have a := h1 k.toNat _ (List.getElem?_eq_getElem hl)
      have b := h3 k.toNat _ (List.getElem?_eq_getElem hl)
      rw [show ((k.toNat : Nat) : Int) = k by omega] at a b
      rw [a, b]
    · rw [if_neg hq, if_neg (by omega)]
theorem rp_eq {dn dl dx dy du dv ds qn qs qx qy : Int → Int} {dz np k w : Int} {DD : List jD} (hb : bx dn dl dx dy du dv dz (DD.map fun d => d.1)) (hs : ∀ (k : Nat) (d : jD), DD[k]? = some d → ds k = d.2) (hm : mdI qn qs qx qy np DD) (hk : 0 ≤ k ∧ k < dz) : (if w = 0 then dn k else if w = 1 then ds k else if w = 2 then dx k else dy k) = (if w = 0 then qn k else if w = 1 then qs k else if w = 2 then qx k else qy k) := by
  obtain ⟨q, hq, hm1, e0, e1, e2, e3, -⟩ := bx_at hb hk
  have hnp : np = dz := by rw [hm.1, hb.1, List.length_map]
  obtain ⟨d, hd, f0, f1, f2, f3, -⟩ := md_at hm (show 0 ≤ k ∧ k < np by omega)
  have h1 : (DD.map fun d => d.1)[k.toNat]? = some d.1 := map_get _ hd
  have h2 : d.1 = q := Option.some.inj (h1.symm.trans hq)
  have h3 := hs _ _ hd
  rw [show ((k.toNat : Nat) : Int) = k by omega] at h3
  rw [e0, h3, e2, e3, f0, f1, f2, f3, h2]
