/-! the model's guard, its barred places, its near places -/
def mtI (tn tl ta : Int → Int) (nd : Int) (TD : List (Int × Int × Int)) : Prop := nd = (TD.length : Int) ∧ ∀ (k : Nat) (d : Int × Int × Int), TD[k]? = some d → tn k = d.1 ∧ tl k = d.2.1 ∧ ta k = d.2.2 ∧ 0 ≤ d.2.1 ∧ d.2.1 < 64 ∧ 1 ≤ d.2.2 ∧ d.2.2 ≤ 1000000 ∧ 0 ≤ d.1 ∧ d.1 < 40
theorem mt_at {tn tl ta : Int → Int} {nd k : Int} {TD : List (Int × Int × Int)} (h : mtI tn tl ta nd TD) (hk : 0 ≤ k ∧ k < nd) : ∃ d : Int × Int × Int, TD[k.toNat]? = some d ∧ tn k = d.1 ∧ tl k = d.2.1 ∧ ta k = d.2.2 ∧ 0 ≤ d.2.1 ∧ d.2.1 < 64 ∧ 1 ≤ d.2.2 ∧ d.2.2 ≤ 1000000 ∧ 0 ≤ d.1 ∧ d.1 < 40 := by
  obtain ⟨h1, h2⟩ := h
  have hl : k.toNat < TD.length := by omega
  have hq : TD[k.toNat]? = some TD[k.toNat] := List.getElem?_eq_getElem hl
  have e := h2 _ _ hq
  rw [show ((k.toNat : Nat) : Int) = k by omega] at e
  exact ⟨_, hq, e⟩
def tdF (net layer : Int) : Int × Int × Int → Int := fun d => if d.1 = net ∧ d.2.1 ≤ layer then d.2.2 else 0
def plF (net layer : Int) : jD → Int := fun d => if d.1.1 = net ∧ d.2 ≤ layer then 1 else 0
theorem sm_pt {c : Prop} [Decidable c] {p v n : Int} (hp : 0 ≤ p) (hn : 0 ≤ n) : sm (fun l => if c ∧ p = l then v else 0) 0 n = if c ∧ p < n then v else 0 := by
  by_cases hc : c
  · by_cases h : p < n
    · rw [sm_sp (b := p) hp (by omega : p ≤ n), sm_sp (a := p) (b := p + 1) (c := n) (by omega) (by omega), sm_s (Int.le_refl p), sm_0 (Int.le_refl p), sm_z (a := 0) (b := p) (fun x _ _ => if_neg (fun r => by omega)), sm_z (a := p + 1) (b := n) (fun x _ _ => if_neg (fun r => by omega)), if_pos ⟨hc, rfl⟩, if_pos ⟨hc, h⟩]
      omega
    · rw [if_neg (fun r => h r.2)]
      exact sm_z fun x _ _ => if_neg (fun r => by omega)
  · rw [if_neg (fun r => hc r.1)]
    exact sm_z fun x _ _ => if_neg (fun r => hc r.1)
theorem td_sw (net : Int) {layer : Int} (hl : 0 ≤ layer) : ∀ {TD : List (Int × Int × Int)}, (∀ d ∈ TD, 0 ≤ d.2.1) → sm (fun l => tdX TD net l) 0 (layer + 1) = lsum (tdF net layer) TD
  | [], _ => sm_z fun _ _ _ => rfl
  | d :: TD, h => by
    have h1 := td_sw net hl (TD := TD) (fun e he => h e (List.mem_cons_of_mem _ he))
    show sm (fun l => (if d.1 = net ∧ d.2.1 = l then d.2.2 else 0) + tdX TD net l) 0 (layer + 1) = tdF net layer d + lsum (tdF net layer) TD
    rw [sm_add, h1, sm_pt (h d List.mem_cons_self) (by omega)]
    unfold tdF
    congr 1
    by_cases c : d.1 = net ∧ d.2.1 ≤ layer
    · rw [if_pos c, if_pos ⟨c.1, by omega⟩]
    · rw [if_neg c, if_neg (fun r => c ⟨r.1, by omega⟩)]
theorem pl_sw (net : Int) {layer : Int} (hl : 0 ≤ layer) : ∀ {DD : List jD}, (∀ d ∈ DD, 0 ≤ d.2) → sm (fun l => plX DD net l) 0 (layer + 1) = lsum (plF net layer) DD
  | [], _ => sm_z fun _ _ _ => rfl
  | d :: DD, h => by
    have h1 := pl_sw net hl (DD := DD) (fun e he => h e (List.mem_cons_of_mem _ he))
    show sm (fun l => (if d.1.1 = net ∧ d.2 = l then 1 else 0) + plX DD net l) 0 (layer + 1) = plF net layer d + lsum (plF net layer) DD
    rw [sm_add, h1, sm_pt (h d List.mem_cons_self) (by omega)]
    unfold plF
    congr 1
    by_cases c : d.1.1 = net ∧ d.2 ≤ layer
    · rw [if_pos c, if_pos ⟨c.1, by omega⟩]
    · rw [if_neg c, if_neg (fun r => c ⟨r.1, by omega⟩)]
theorem sm_mul (k : Int) (f : Int → Int) (a b : Int) : sm (fun x => k * f x) a b = k * sm f a b := by
  have : ∀ n : Nat, su (fun x => k * f x) a n = k * su f a n := by
    intro n
    induction n with
    | zero => show (0 : Int) = k * 0; rw [Int.mul_zero]
    | succ n ih =>
      show su (fun x => k * f x) a n + k * f (a + n) = k * (su f a n + f (a + n))
      rw [ih, Int.mul_add]
  exact this _
theorem gdA_eq {ga : Int → Int} {TD : List (Int × Int × Int)} {DD : List jD} {net layer : Int} (hl : 0 ≤ layer) (h1 : ∀ d ∈ TD, 0 ≤ d.2.1) (h2 : ∀ d ∈ DD, 0 ≤ d.2) : gdA ga TD DD net layer = ga net + 8 * lsum (tdF net layer) TD + 128 * lsum (plF net layer) DD := by
  unfold gdA
  have e : sm (fun l => dX TD DD net l) 0 (layer + 1) = lsum (tdF net layer) TD + 16 * lsum (plF net layer) DD := by
    show sm (fun l => tdX TD net l + 16 * plX DD net l) 0 (layer + 1) = _
    rw [sm_add, sm_mul, td_sw net hl h1, pl_sw net hl h2]
  omega
theorem tdF_bd {TD : List (Int × Int × Int)} (net layer : Int) (h : ∀ d ∈ TD, 1 ≤ d.2.2 ∧ d.2.2 ≤ 1000000) : 0 ≤ lsum (tdF net layer) TD ∧ lsum (tdF net layer) TD ≤ 1000000 * TD.length := lsum_bd fun d hd => by
  have := h d hd
  unfold tdF
  split <;> omega
theorem plF_bd (DD : List jD) (net layer : Int) : 0 ≤ lsum (plF net layer) DD ∧ lsum (plF net layer) DD ≤ 1 * DD.length := lsum_bd fun d _ => by
  unfold plF
  split <;> omega
theorem lsum_pre {α : Type} (f : α → Int) {L : List α} {i : Int} {q : α} (h : 0 ≤ i) (hq : L[i.toNat]? = some q) : lsum f (pre L (i + 1)) = lsum f (pre L i) + f q := by rw [pre_s h hq, lsum_app, lsum_one]
theorem pre_len {α : Type} (L : List α) {i : Int} (h : 0 ≤ i) : ((pre L i).length : Int) ≤ i := by unfold pre; rw [List.length_take]; omega
/-! barred, near -/
def rim (x y : Int) : Bool := decide (¬ (2 ≤ x ∧ x ≤ 994 ∧ 2 ≤ y ∧ y ≤ 994))
def mkB (f : Int → Int64) (BL : List jQ) : Prop := ∀ x y, 0 ≤ x → x < 1000 → 0 ≤ y → y < 1000 → mk f x y = (rim x y || brd BL x y)
theorem mkB_0 {f0 f1 f2 f3 f4 : Int → Int64} (h0 : mk0 f0) (h1 : mkM f0 f1 0 0 2 1000) (h2 : mkM f1 f2 995 0 1000 1000) (h3 : mkM f2 f3 0 0 1000 2) (h4 : mkM f3 f4 0 995 1000 1000) : mkB f4 [] := fun x y a b c d => by
  rw [h4 x y a (by omega) c d, h3 x y a (by omega) c d, h2 x y a (by omega) c d, h1 x y a (by omega) c d, mk0_f h0 ⟨a, by omega⟩ ⟨c, d⟩]
  show _ = (rim x y || false)
  unfold rim
  rw [Bool.eq_iff_iff]
  simp only [Bool.or_eq_true, decide_eq_true_eq, Bool.false_eq_true, false_or, or_false]
  omega
theorem mkB_s {f g : Int → Int64} {BL : List jQ} {q : jQ} {x0 y0 x1 y1 : Int} (h : mkB f BL) (hm : mkM f g (x0 - 5) (y0 - 5) (x1 + 2) (y1 + 2)) (e0 : x0 = q.2.2.1) (e1 : y0 = q.2.2.2.1) (e2 : x1 = q.2.2.2.2.1) (e3 : y1 = q.2.2.2.2.2) : mkB g (BL ++ [q]) := fun x y a b c d => by
  rw [hm x y a (by omega) c d, h x y a b c d, brd_app, brd_one, Bool.or_assoc]
  congr 2
  unfold tch
  exact decide_eq_decide.mpr (by omega)
def nrq (net : Int) (q : jQ) (x y : Int) : Bool := decide (q.1 = net ∧ q.2.2.1 - 23 ≤ x ∧ x ≤ q.2.2.2.2.1 + 19 ∧ q.2.2.2.1 - 23 ≤ y ∧ y ≤ q.2.2.2.2.2 + 19)
def mkN (f : Int → Int64) (L : List jQ) (net : Int) : Prop := ∀ x y, 0 ≤ x → x < 1024 → 0 ≤ y → y < 1000 → mk f x y = (L.any (fun q => nrq net q x y) && decide (x < 1000))
theorem mkN_0 {f : Int → Int64} {net : Int} (h : mk0 f) : mkN f [] net := fun x y a b c d => mk0_f h ⟨a, b⟩ ⟨c, d⟩
theorem mkN_n {f : Int → Int64} {L : List jQ} {net : Int} {q : jQ} (h : mkN f L net) (hq : q.1 ≠ net) : mkN f (L ++ [q]) net := fun x y a b c d => by
  rw [h x y a b c d, List.any_append]
  have : ([q].any fun q => nrq net q x y) = false := by
    show (nrq net q x y || false) = false
    rw [Bool.or_false]
    exact dec_f fun r => hq r.1
  rw [this, Bool.or_false]
theorem mkN_s {f g : Int → Int64} {L : List jQ} {net : Int} {q : jQ} {x0 y0 x1 y1 : Int} (h : mkN f L net) (hq : q.1 = net) (hm : mkM f g (x0 - 23) (y0 - 23) (x1 + 20) (y1 + 20)) (e0 : x0 = q.2.2.1) (e1 : y0 = q.2.2.2.1) (e2 : x1 = q.2.2.2.2.1) (e3 : y1 = q.2.2.2.2.2) : mkN g (L ++ [q]) net := fun x y a b c d => by
  rw [hm x y a b c d, h x y a b c d, List.any_append]
  have : ([q].any fun q => nrq net q x y) = nrq net q x y := by
    show (nrq net q x y || false) = _
    rw [Bool.or_false]
  rw [this]
  unfold nrq
  rw [Bool.eq_iff_iff]
  simp only [Bool.or_eq_true, Bool.and_eq_true, decide_eq_true_eq]
  constructor
  · rintro (r | r)
    · exact ⟨Or.inl r.1, r.2⟩
    · exact ⟨Or.inr ⟨hq, by omega⟩, by omega⟩
  · rintro ⟨r | r, t⟩
    · exact Or.inl ⟨r, t⟩
    · exact Or.inr (by omega)
/-- a word of free places -/
theorem frW {nf bf : Int → Int64} {L BL : List jQ} {net k : Int} (hn : mkN nf L net) (hb : mkB bf BL) (hk : 0 ≤ k ∧ k < 16000) {b : Nat} (h : b < 64) : wb (nf k &&& (bf k ^^^ jL (-1))) b = true ↔ nrP L BL net (64 * (k % 16) + b) (k / 16) := by
  have e1 : wb (nf k) b = mk nf (64 * (k % 16) + b) (k / 16) := by
    unfold mk
    rw [show 16 * (k / 16) + (64 * (k % 16) + (b : Int)) / 64 = k by omega, show ((64 * (k % 16) + (b : Int)) % 64).toNat = b by omega]
  have e2 : wb (bf k) b = mk bf (64 * (k % 16) + b) (k / 16) := by
    unfold mk
    rw [show 16 * (k / 16) + (64 * (k % 16) + (b : Int)) / 64 = k by omega, show ((64 * (k % 16) + (b : Int)) % 64).toNat = b by omega]
  rw [wb_and, wb_not _ h, e1, e2, hn _ _ (by omega) (by omega) (by omega) (by omega), Bool.and_eq_true, Bool.and_eq_true, Bool.not_eq_true', decide_eq_true_eq, List.any_eq_true]
  unfold nrP isN
  constructor
  · rintro ⟨⟨⟨q, hq, hr⟩, h1⟩, h2⟩
    rw [hb _ _ (by omega) h1 (by omega) (by omega), Bool.or_eq_false_iff] at h2
    have hr := decide_eq_true_iff.mp hr
    have h3 := decide_eq_false_iff_not.mp h2.1
    exact ⟨q, hq, hr.1, Classical.byContradiction h3, hr.2, h2.2⟩
  · rintro ⟨q, hq, hr, h1, h2, h3⟩
    refine ⟨⟨⟨q, hq, decide_eq_true ⟨hr, h2⟩⟩, by omega⟩, ?_⟩
    rw [hb _ _ (by omega) (by omega) (by omega) (by omega), h3, Bool.or_false]
    exact decide_eq_false (fun r => r h1)
