/-! lists of rectangles, and the arrays that hold them -/
abbrev jQ : Type := Int × Int × Int × Int × Int × Int
def pre {α : Type} (L : List α) (i : Int) : List α := L.take i.toNat
theorem pre_0 {α : Type} (L : List α) : pre L 0 = [] := rfl
theorem pre_s {α : Type} {L : List α} {i : Int} {q : α} (h : 0 ≤ i) (hq : L[i.toNat]? = some q) : pre L (i + 1) = pre L i ++ [q] := by
  unfold pre
  rw [show (i + 1).toNat = i.toNat + 1 by omega, List.take_add_one, hq]
  rfl
theorem pre_all {α : Type} {L : List α} {i : Int} (h : (L.length : Int) ≤ i) : pre L i = L := by
  unfold pre
  exact List.take_of_length_le (by omega)
theorem pre_in {α : Type} {L : List α} {i : Int} {q : α} (h : q ∈ pre L i) : q ∈ L := List.mem_of_mem_take h
def okQ (q : jQ) : Prop := -1 ≤ q.1 ∧ q.1 < 40 ∧ 0 ≤ q.2.1 ∧ q.2.1 < 64 ∧ 0 ≤ q.2.2.1 ∧ q.2.2.1 < q.2.2.2.2.1 ∧ q.2.2.2.2.1 ≤ 1000 ∧ 0 ≤ q.2.2.2.1 ∧ q.2.2.2.1 < q.2.2.2.2.2 ∧ q.2.2.2.2.2 ≤ 1000
def bxs (fn fl fx fy fu fv : Int → Int) (L : List jQ) : Prop := ∀ (k : Nat) (q : jQ), L[k]? = some q → fn k = q.1 ∧ fl k = q.2.1 ∧ fx k = q.2.2.1 ∧ fy k = q.2.2.2.1 ∧ fu k = q.2.2.2.2.1 ∧ fv k = q.2.2.2.2.2
def bx (fn fl fx fy fu fv : Int → Int) (sz : Int) (L : List jQ) : Prop := sz = (L.length : Int) ∧ bxs fn fl fx fy fu fv L ∧ ∀ q ∈ L, okQ q
theorem bx_at {fn fl fx fy fu fv : Int → Int} {sz : Int} {L : List jQ} (h : bx fn fl fx fy fu fv sz L) {k : Int} (hk : 0 ≤ k ∧ k < sz) : ∃ q : jQ, L[k.toNat]? = some q ∧ q ∈ L ∧ fn k = q.1 ∧ fl k = q.2.1 ∧ fx k = q.2.2.1 ∧ fy k = q.2.2.2.1 ∧ fu k = q.2.2.2.2.1 ∧ fv k = q.2.2.2.2.2 ∧ okQ q := by
  obtain ⟨h1, h2, h3⟩ := h
  have hl : k.toNat < L.length := by omega
  have hq : L[k.toNat]? = some L[k.toNat] := List.getElem?_eq_getElem hl
  have hm := List.mem_of_getElem? hq
  have e : ((k.toNat : Nat) : Int) = k := by omega
  obtain ⟨a0, a1, a2, a3, a4, a5⟩ := h2 _ _ hq
  rw [e] at a0 a1 a2 a3 a4 a5
  exact ⟨_, hq, hm, a0, a1, a2, a3, a4, a5, h3 _ hm⟩
theorem bx_nil (fn fl fx fy fu fv : Int → Int) : bx fn fl fx fy fu fv 0 [] := ⟨rfl, fun _ _ h => by simp at h, fun _ h => by cases h⟩
theorem bx_push {fn fl fx fy fu fv : Int → Int} {sz : Int} {L : List jQ} (h : bx fn fl fx fy fu fv sz L) {q : jQ} (ho : okQ q) {z0 z1 z2 z3 z4 z5 : Int} (e0 : z0 = q.1) (e1 : z1 = q.2.1) (e2 : z2 = q.2.2.1) (e3 : z3 = q.2.2.2.1) (e4 : z4 = q.2.2.2.2.1) (e5 : z5 = q.2.2.2.2.2) :
    bx (upI fn sz z0) (upI fl sz z1) (upI fx sz z2) (upI fy sz z3) (upI fu sz z4) (upI fv sz z5) (sz + 1) (L ++ [q]) := by
  obtain ⟨h1, h2, h3⟩ := h
  refine ⟨by simp; omega, ?_, ?_⟩
  · intro k q2 hk
    rcases Nat.lt_or_ge k L.length with c | c
    · rw [List.getElem?_append_left c] at hk
      have hne : (k : Int) ≠ sz := by omega
      obtain ⟨a0, a1, a2, a3, a4, a5⟩ := h2 _ _ hk
      rw [upI_ne _ _ hne, upI_ne _ _ hne, upI_ne _ _ hne, upI_ne _ _ hne, upI_ne _ _ hne, upI_ne _ _ hne]
      exact ⟨a0, a1, a2, a3, a4, a5⟩
    · rw [List.getElem?_append_right c] at hk
      have hz : k - L.length = 0 := by
        have := (List.getElem?_eq_some_iff.mp hk).1
        simp at this
        omega
      rw [hz] at hk
      have e : (k : Int) = sz := by omega
      cases hk
      rw [e, upI_eq, upI_eq, upI_eq, upI_eq, upI_eq, upI_eq]
      exact ⟨e0, e1, e2, e3, e4, e5⟩
  · intro q2 hq2
    rcases List.mem_append.mp hq2 with c | c
    · exact h3 _ c
    · rw [List.mem_singleton.mp c]; exact ho
theorem flt_s {α : Type} (P : α → Bool) {L : List α} {i : Int} {q : α} (h : 0 ≤ i) (hq : L[i.toNat]? = some q) (hp : P q = true) : (pre L (i + 1)).filter P = (pre L i).filter P ++ [q] := by
  rw [pre_s h hq, List.filter_append]
  simp [hp]
theorem flt_n {α : Type} (P : α → Bool) {L : List α} {i : Int} {q : α} (h : 0 ≤ i) (hq : L[i.toNat]? = some q) (hp : P q = false) : (pre L (i + 1)).filter P = (pre L i).filter P := by
  rw [pre_s h hq, List.filter_append]
  simp [hp]
theorem flt_len {α : Type} (P : α → Bool) (L : List α) (i : Int) : ((pre L i).filter P).length ≤ L.length := Nat.le_trans (List.length_filter_le _ _) (by unfold pre; simp; omega)
theorem flt_leni {α : Type} (P : α → Bool) (L : List α) (i : Int) (h : 0 ≤ i) : (((pre L i).filter P).length : Int) ≤ i := by
  have h1 := List.length_filter_le P (pre L i)
  have h2 : (pre L i).length ≤ i.toNat := by unfold pre; simp; omega
  omega
/-- the k-th of a filtered list, found at its place -/
theorem flt_at {α : Type} (P : α → Bool) {L : List α} {i : Nat} {q : α} (hq : L[i]? = some q) (hp : P q = true) : (L.filter P)[((L.take i).filter P).length]? = some q := by
  have hl := (List.getElem?_eq_some_iff.mp hq).1
  have e : L = L.take i ++ (q :: L.drop (i + 1)) := by
    have h1 : L.drop i = q :: L.drop (i + 1) := by
      rw [List.drop_eq_getElem_cons hl]
      congr 1
      exact (List.getElem?_eq_some_iff.mp hq).2
    rw [← h1, List.take_append_drop]
  conv => lhs; arg 1; rw [e]
  rw [List.filter_append, List.getElem?_append_right (Nat.le_refl _), Nat.sub_self, List.filter_cons_of_pos hp]
  rfl
def onL (w : Int) : jQ → Bool := fun q => decide (q.2.1 = w)
def offL (w : Int) : jQ → Bool := fun q => decide (q.2.1 ≠ w)
theorem onL_t {w : Int} {q : jQ} (h : q.2.1 = w) : onL w q = true := decide_eq_true h
theorem onL_f {w : Int} {q : jQ} (h : q.2.1 ≠ w) : onL w q = false := decide_eq_false h
theorem offL_t {w : Int} {q : jQ} (h : q.2.1 ≠ w) : offL w q = true := decide_eq_true h
theorem offL_f {w : Int} {q : jQ} (h : q.2.1 = w) : offL w q = false := decide_eq_false (fun q => q h)
theorem upI_k {f f2 : Int → Int} {k j v : Int} (hne : k ≠ j) (h : f k = f2 k) : upI f j v k = f2 k := (upI_ne f v hne).trans h
theorem upI_k6 {a0 a1 a2 a3 a4 a5 b0 b1 b2 b3 b4 b5 : Int → Int} {k j v0 v1 v2 v3 v4 v5 : Int} (hne : k ≠ j) (h : a0 k = b0 k ∧ a1 k = b1 k ∧ a2 k = b2 k ∧ a3 k = b3 k ∧ a4 k = b4 k ∧ a5 k = b5 k) :
    upI a0 j v0 k = b0 k ∧ upI a1 j v1 k = b1 k ∧ upI a2 j v2 k = b2 k ∧ upI a3 j v3 k = b3 k ∧ upI a4 j v4 k = b4 k ∧ upI a5 j v5 k = b5 k :=
  ⟨upI_k hne h.1, upI_k hne h.2.1, upI_k hne h.2.2.1, upI_k hne h.2.2.2.1, upI_k hne h.2.2.2.2.1, upI_k hne h.2.2.2.2.2⟩
