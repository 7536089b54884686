/-! the tiles of a fill, one after the other -/
theorem flI_row {L M P : List jQ} {layer x y pt sz aw sp wt j : Int} {st : jF} (hs : 0 ≤ sz ∧ sz ≤ pt) (ha : 0 ≤ aw ∧ 0 ≤ sp) (hj : 0 ≤ j ∧ j * pt ≤ 200 - sz) (h : flI L M P layer x y pt sz 0 j st) : ∀ n : Nat, (∀ i : Int, 0 ≤ i → i < n → i * pt ≤ 200 - sz) → flI L M P layer x y pt sz n j (rowF (fun i j => pce layer (x + i * pt) (y + j * pt) sz) (bBl x y sz pt aw sp L M P layer) wt (sz * sz) j n st)
  | 0, _ => h
  | n + 1, hn => flI_s (flI_row hs ha hj h n (fun i a b => hn i a (by omega))) hs ha ⟨by omega, hn n (by omega) (by omega)⟩ hj
theorem flI_up {L M P : List jQ} {layer x y pt sz i j : Int} {st : jF} (h : flI L M P layer x y pt sz i j st) : flI L M P layer x y pt sz 0 (j + 1) st := by
  obtain ⟨h1, X, h2, h3⟩ := h
  exact ⟨h1, X, h2, fun q hq => by
    obtain ⟨i2, j2, a, b, c⟩ := h3 q hq
    exact ⟨i2, j2, a, b, by omega⟩⟩
theorem flI_all {L M P : List jQ} {layer x y pt sz aw sp wt : Int} {w : Nat} {st : jF} (hs : 0 ≤ sz ∧ sz ≤ pt) (ha : 0 ≤ aw ∧ 0 ≤ sp) (hw : ∀ i : Int, 0 ≤ i → i < w → i * pt ≤ 200 - sz) (h : flI L M P layer x y pt sz 0 0 st) : ∀ n : Nat, n ≤ w → flI L M P layer x y pt sz 0 n (allF (fun i j => pce layer (x + i * pt) (y + j * pt) sz) (bBl x y sz pt aw sp L M P layer) wt (sz * sz) w n st)
  | 0, _ => h
  | n + 1, hn => flI_up (flI_row hs ha ⟨by omega, hw n (by omega) (by omega)⟩ (flI_all hs ha hw h n (by omega)) w hw)
def inW (layer t : Int) (q : jQ) : Prop := q.2.1 = layer ∧ t % 5 * 200 ≤ q.2.2.1 ∧ q.2.2.2.2.1 ≤ t % 5 * 200 + 200 ∧ t / 5 * 200 ≤ q.2.2.2.1 ∧ q.2.2.2.2.2 ≤ t / 5 * 200 + 200
theorem tl_end {L M P : List jQ} {layer sz sp aw wt t : Int} (hs : 4 ≤ sz ∧ sz ≤ 100) (hp : 0 ≤ sp ∧ sp ≤ 100) (ha : 0 ≤ aw) : (tlF L M wt layer sz sp aw t P).2 = wcn L M (tlF L M wt layer sz sp aw t P).1 layer (t % 5 * 200) (t / 5 * 200) ∧ ∃ X, (tlF L M wt layer sz sp aw t P).1 = P ++ X ∧ ∀ q ∈ X, inW layer t q := by
  have ht := tsd_eq hs hp
  have hm : max 1 (sz + sp) = sz + sp := by omega
  have h0 : flI L M P layer (t % 5 * 200) (t / 5 * 200) (max 1 (sz + sp)) sz 0 0 (P, wcn L M P layer (t % 5 * 200) (t / 5 * 200)) := ⟨rfl, [], (List.append_nil P).symm, fun q hq => by cases hq⟩
  have h1 := flI_all (aw := aw) (sp := sp) (wt := wt) (w := (tsd sz sp).toNat) ⟨by omega, by omega⟩ ⟨ha, hp.1⟩ (fun i a b => by
    rw [hm]
    exact (fl_hi (by omega)).mp (by omega)) h0 (tsd sz sp).toNat (Nat.le_refl _)
  obtain ⟨h2, X, h3, h4⟩ := h1
  refine ⟨h2, X, h3, fun q hq => ?_⟩
  obtain ⟨i2, j2, e, b, -⟩ := h4 q hq
  have c1 : 0 ≤ i2 * max 1 (sz + sp) := Int.mul_nonneg b.1 (by omega)
  have c2 : 0 ≤ j2 * max 1 (sz + sp) := Int.mul_nonneg b.2.2.1 (by omega)
  rw [e]
  refine ⟨rfl, ?_, ?_, ?_, ?_⟩
  · show t % 5 * 200 ≤ t % 5 * 200 + i2 * max 1 (sz + sp); omega
  · show t % 5 * 200 + i2 * max 1 (sz + sp) + sz ≤ t % 5 * 200 + 200; omega
  · show t / 5 * 200 ≤ t / 5 * 200 + j2 * max 1 (sz + sp); omega
  · show t / 5 * 200 + j2 * max 1 (sz + sp) + sz ≤ t / 5 * 200 + 200; omega
theorem wcn_o {L M P X : List jQ} {layer t t2 : Int} (h : ∀ q ∈ X, inW layer t q) (ht : t ≠ t2) : wcn L M (P ++ X) layer (t2 % 5 * 200) (t2 / 5 * 200) = wcn L M P layer (t2 % 5 * 200) (t2 / 5 * 200) := by
  unfold wcn
  refine cm_cg fun u v a b c d => ?_
  have e : covL (X.filter (onNL layer (-1))) u v = false := covL_no fun q hq => by
    have hq := h q (List.mem_filter.mp hq).1
    unfold inW at hq
    exact dec_f fun r => by omega
  rw [cov_app_f, e, Bool.or_false]
theorem fl_a {L M LP : List jQ} {wl wh layer sz sp aw : Int} (hs : 4 ≤ sz ∧ sz ≤ 100) (hp : 0 ≤ sp ∧ sp ≤ 100) (ha : 0 ≤ aw) : ∀ (n : Nat) (t : Int), (n : Int) ≤ t → wcn L M (flF L M wl wh layer sz sp aw LP n).1 layer (t % 5 * 200) (t / 5 * 200) = wcn L M LP layer (t % 5 * 200) (t / 5 * 200)
  | 0, _, _ => rfl
  | n + 1, t, h => by
    obtain ⟨-, X, h2, h3⟩ := tl_end (L := L) (M := M) (P := (flF L M wl wh layer sz sp aw LP n).1) (layer := layer) (wt := wl) (t := n) hs hp ha
    show wcn L M (tlF L M wl layer sz sp aw n (flF L M wl wh layer sz sp aw LP n).1).1 layer _ _ = _
    rw [h2, wcn_o h3 (by omega)]
    exact fl_a hs hp ha n t (by omega)
theorem fl_b {L M LP : List jQ} {wl wh layer sz sp aw : Int} (hs : 4 ≤ sz ∧ sz ≤ 100) (hp : 0 ≤ sp ∧ sp ≤ 100) (ha : 0 ≤ aw) (t : Nat) : ∀ n : Nat, t < n → wcn L M (flF L M wl wh layer sz sp aw LP n).1 layer ((t : Int) % 5 * 200) ((t : Int) / 5 * 200) = (tlF L M wl layer sz sp aw t (flF L M wl wh layer sz sp aw LP t).1).2
  | 0, h => by omega
  | n + 1, h => by
    obtain ⟨h1, X, h2, h3⟩ := tl_end (L := L) (M := M) (P := (flF L M wl wh layer sz sp aw LP n).1) (layer := layer) (wt := wl) (t := n) hs hp ha
    show wcn L M (tlF L M wl layer sz sp aw n (flF L M wl wh layer sz sp aw LP n).1).1 layer _ _ = _
    by_cases e : t = n
    · subst e
      exact h1.symm
    · rw [h2, wcn_o h3 (by omega)]
      exact fl_b hs hp ha t n (by omega)
