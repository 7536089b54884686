/-! the slots of a layer -/
def slAt (w sd : Int) : List jQ → Int → Int
  | [], _ => -1
  | q :: r, k => if k < 0 then -1 else if k < slN q w then slS q w k sd else slAt w sd r (k - slN q w)
theorem slAt_neg {w sd k : Int} (h : k < 0) : ∀ L : List jQ, slAt w sd L k = -1
  | [] => rfl
  | _ :: _ => if_pos h
theorem drop_at {α : Type} {L : List α} {i : Int} {q : α} (h : 0 ≤ i) (hq : L[i.toNat]? = some q) : L.drop i.toNat = q :: L.drop (i + 1).toNat := by
  obtain ⟨h1, h2⟩ := List.getElem?_eq_some_iff.mp hq
  rw [List.drop_eq_getElem_cons h1, h2, show (i + 1).toNat = i.toNat + 1 by omega]
theorem drop_all {α : Type} {L : List α} {i : Int} (h : (L.length : Int) ≤ i) : L.drop i.toNat = [] := List.drop_eq_nil_of_le (by omega)
theorem slAt_n {w sd k layer i : Int} {L : List jQ} {q : jQ} (h : 0 ≤ i) (hq : L[i.toNat]? = some q) (hl : q.2.1 ≠ layer) : slAt w sd ((L.drop i.toNat).filter (onL layer)) k = slAt w sd ((L.drop (i + 1).toNat).filter (onL layer)) k := by
  rw [drop_at h hq, List.filter_cons_of_neg (by rw [onL_f hl]; exact Bool.noConfusion)]
theorem slAt_s {w sd k layer i : Int} {L : List jQ} {q : jQ} (h : 0 ≤ i) (hq : L[i.toNat]? = some q) (hl : q.2.1 = layer) (hk : 0 ≤ k) (hs : slN q w ≤ k) : slAt w sd ((L.drop i.toNat).filter (onL layer)) k = slAt w sd ((L.drop (i + 1).toNat).filter (onL layer)) (k - slN q w) := by
  rw [drop_at h hq, List.filter_cons_of_pos (onL_t hl)]
  show (if k < 0 then -1 else if k < slN q w then slS q w k sd else slAt w sd _ (k - slN q w)) = _
  rw [if_neg (by omega), if_neg (by omega)]
theorem slAt_h {w sd k layer i : Int} {L : List jQ} {q : jQ} (h : 0 ≤ i) (hq : L[i.toNat]? = some q) (hl : q.2.1 = layer) (hk : 0 ≤ k) (hs : k < slN q w) : slAt w sd ((L.drop i.toNat).filter (onL layer)) k = slS q w k sd := by
  rw [drop_at h hq, List.filter_cons_of_pos (onL_t hl)]
  show (if k < 0 then -1 else if k < slN q w then slS q w k sd else slAt w sd _ (k - slN q w)) = _
  rw [if_neg (by omega), if_pos hs]
theorem slsum_bd {w : Int} (hw : 1 ≤ w) {L : List jQ} (h : ∀ q ∈ L, okQ q) : 0 ≤ lsum (fun q => slN q w) L ∧ lsum (fun q => slN q w) L ≤ 1000 * L.length :=
  lsum_bd fun q hq => ⟨(slN_bd (h q hq) hw).1, (slN_bd (h q hq) hw).2.1⟩
