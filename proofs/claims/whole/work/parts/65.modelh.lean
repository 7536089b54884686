/-! whether a square fits -/
def gt0 (px py ps gr : Int) (q : jQ) : Bool := decide (px - gr < q.2.2.2.2.1 ∧ q.2.2.1 < px + ps + gr ∧ py - gr < q.2.2.2.2.2 ∧ q.2.2.2.1 < py + ps + gr)
def bad0 (px py ps aw sp : Int) (L LD LP : List jQ) (layer : Int) : Bool := ((false || (L.filter (onL layer)).any (gt0 px py ps aw)) || (LD.filter (onL layer)).any (gt0 px py ps aw)) || (LP.filter (onL layer)).any (gt0 px py ps sp)
theorem bad0_eq (tx ty ps pt aw sp : Int) (L LD LP : List jQ) (layer i j : Int) : bad0 (tx + i * pt) (ty + j * pt) ps aw sp L LD LP layer = bBl tx ty ps pt aw sp L LD LP layer i j := rfl
theorem any_at {α : Type} {L : List α} {P g : α → Bool} {k : Nat} {q : α} (hq : L[k]? = some q) (hp : P q = true) (hg : g q = true) : (L.filter P).any g = true := List.any_eq_true.mpr ⟨q, List.mem_filter.mpr ⟨List.mem_of_getElem? hq, hp⟩, hg⟩
theorem any_s {α : Type} {L : List α} {P g : α → Bool} {i : Int} {q : α} (h : 0 ≤ i) (hq : L[i.toNat]? = some q) (ha : ((pre L i).filter P).any g = false) (hn : P q = true → g q = false) : ((pre L (i + 1)).filter P).any g = false := by
  rw [pre_s h hq, List.filter_append, List.any_append, ha, Bool.false_or]
  cases c : P q
  · rw [List.filter_cons_of_neg (by rw [c]; exact Bool.noConfusion)]; rfl
  · rw [List.filter_cons_of_pos c]
    show (g q || false) = false
    rw [hn c]
    rfl
