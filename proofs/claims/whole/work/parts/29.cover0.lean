/-! what rectangles cover; the sort by the left side; the length in a row; the slabs -/
def inQ (q : jQ) (x y : Int) : Bool := decide (q.2.2.1 ≤ x ∧ x < q.2.2.2.2.1 ∧ q.2.2.2.1 ≤ y ∧ y < q.2.2.2.2.2)
def covL (L : List jQ) (x y : Int) : Bool := L.any fun q => inQ q x y
theorem inQ_iff {q : jQ} {x y : Int} : inQ q x y = true ↔ q.2.2.1 ≤ x ∧ x < q.2.2.2.2.1 ∧ q.2.2.2.1 ≤ y ∧ y < q.2.2.2.2.2 := by unfold inQ; exact decide_eq_true_iff
theorem covL_nil (x y : Int) : covL [] x y = false := rfl
theorem covL_app (L M : List jQ) (x y : Int) : covL (L ++ M) x y = (covL L x y || covL M x y) := List.any_append
theorem covL_one (q : jQ) (x y : Int) : covL [q] x y = inQ q x y := by unfold covL; simp
theorem covL_iff {L : List jQ} {x y : Int} : covL L x y = true ↔ ∃ q ∈ L, inQ q x y = true := List.any_eq_true
def onNL (w nn : Int) : jQ → Bool := fun q => decide (q.2.1 = w ∧ (nn = -1 ∨ q.1 = nn))
theorem onNL_all (w : Int) (L : List jQ) : L.filter (onNL w (-1)) = L.filter (onL w) := by
  refine List.filter_congr fun q _ => ?_
  unfold onNL onL
  exact decide_eq_decide.mpr ⟨fun h => h.1, fun h => ⟨h, Or.inl rfl⟩⟩
def anN (P : Int → Bool) : Nat → Bool
  | 0 => false
  | n + 1 => anN P n || P n
def an (P : Int → Bool) (n : Int) : Bool := anN P n.toNat
theorem anN_iff {P : Int → Bool} : ∀ {n : Nat}, anN P n = true ↔ ∃ k : Int, (0 ≤ k ∧ k < n) ∧ P k = true
  | 0 => ⟨fun h => (by cases h), fun ⟨k, h, _⟩ => (by omega)⟩
  | n + 1 => by
    show (anN P n || P n) = true ↔ _
    rw [Bool.or_eq_true, anN_iff (n := n)]
    constructor
    · rintro (⟨k, h, h2⟩ | h)
      · exact ⟨k, by omega, h2⟩
      · exact ⟨n, by omega, h⟩
    · rintro ⟨k, h, h2⟩
      rcases Int.lt_or_le k n with q | q
      · exact Or.inl ⟨k, ⟨h.1, q⟩, h2⟩
      · have e : k = n := by omega
        rw [e] at h2
        exact Or.inr h2
theorem an_iff {P : Int → Bool} {n : Int} : an P n = true ↔ ∃ k : Int, (0 ≤ k ∧ k < n) ∧ P k = true := by
  unfold an
  rw [anN_iff]
  exact ⟨fun ⟨k, h, h2⟩ => ⟨k, by omega, h2⟩, fun ⟨k, h, h2⟩ => ⟨k, by omega, h2⟩⟩
theorem an_s {P : Int → Bool} {n : Int} (h : 0 ≤ n) : an P (n + 1) = (an P n || P n) := by
  unfold an
  rw [show (n + 1).toNat = n.toNat + 1 by omega]
  show (anN P n.toNat || P (n.toNat : Int)) = _
  rw [show ((n.toNat : Nat) : Int) = n by omega]
theorem an_0 {P : Int → Bool} {n : Int} (h : n ≤ 0) : an P n = false := by
  unfold an
  rw [show n.toNat = 0 by omega]
  rfl
theorem bi_or {a b c : Bool} (h : c = (a || b)) (h2 : ¬ (a = true ∧ b = true)) : bi c = bi a + bi b := by
  subst h
  cases a <;> cases b <;> first | rfl | exact absurd ⟨rfl, rfl⟩ h2
/-- the rectangles of a cover, clipped to its window -/
def rcs (fx fy fu fv : Int → Int) (sz wd hg : Int) : Prop := ∀ k, 0 ≤ k → k < sz → 0 ≤ fx k ∧ fx k < fu k ∧ fu k ≤ wd ∧ 0 ≤ fy k ∧ fy k < fv k ∧ fv k ≤ hg
def hit (fx fy fu fv : Int → Int) (x y k : Int) : Bool := decide (fx k ≤ x ∧ x < fu k ∧ fy k ≤ y ∧ y < fv k)
theorem hit_iff {fx fy fu fv : Int → Int} {x y k : Int} : hit fx fy fu fv x y k = true ↔ fx k ≤ x ∧ x < fu k ∧ fy k ≤ y ∧ y < fv k := by unfold hit; exact decide_eq_true_iff
def cv (fx fy fu fv : Int → Int) (sz wx wy wd hg : Int) (R : List jQ) : Prop := (0 ≤ wx ∧ wx ≤ 1000 ∧ 0 ≤ wy ∧ wy ≤ 1000) ∧ (0 ≤ wd ∧ wd ≤ 1000 ∧ 0 ≤ hg ∧ hg ≤ 1000) ∧ (0 ≤ sz ∧ sz ≤ (R.length : Int)) ∧ rcs fx fy fu fv sz wd hg ∧ ∀ x y, 0 ≤ x → x < wd → 0 ≤ y → y < hg → covL R (x + wx) (y + wy) = an (hit fx fy fu fv x y) sz
theorem cv_0 {fx fy fu fv : Int → Int} {wx wy wd hg : Int} (h0 : 0 ≤ wx ∧ wx ≤ 1000 ∧ 0 ≤ wy ∧ wy ≤ 1000) (h : 0 ≤ wd ∧ wd ≤ 1000 ∧ 0 ≤ hg ∧ hg ≤ 1000) : cv fx fy fu fv 0 wx wy wd hg [] :=
  ⟨h0, h, ⟨Int.le_refl 0, Int.le_refl 0⟩, fun k h1 h2 => by omega, fun x y _ _ _ _ => by rw [an_0 (Int.le_refl 0)]; rfl⟩
theorem cv_no {fx fy fu fv : Int → Int} {sz wx wy wd hg : Int} {R : List jQ} (h : cv fx fy fu fv sz wx wy wd hg R) {q : jQ} (hq : ∀ x y, 0 ≤ x → x < wd → 0 ≤ y → y < hg → inQ q (x + wx) (y + wy) = false) : cv fx fy fu fv sz wx wy wd hg (R ++ [q]) := by
  obtain ⟨h0, h1, h2, h3, h4⟩ := h
  refine ⟨h0, h1, ⟨h2.1, by rw [List.length_append]; simp; omega⟩, h3, fun x y a b c d => ?_⟩
  rw [covL_app, covL_one, hq x y a b c d, h4 x y a b c d, Bool.or_false]
theorem cv_add {fx fy fu fv : Int → Int} {sz wx wy wd hg : Int} {R : List jQ} (h : cv fx fy fu fv sz wx wy wd hg R) {q : jQ} {z0 z1 z2 z3 : Int} (e0 : z0 = max 0 (q.2.2.1 - wx)) (e1 : z1 = max 0 (q.2.2.2.1 - wy)) (e2 : z2 = min wd (q.2.2.2.2.1 - wx)) (e3 : z3 = min hg (q.2.2.2.2.2 - wy)) (hx : z0 < z2) (hy : z1 < z3) : cv (upI fx sz z0) (upI fy sz z1) (upI fu sz z2) (upI fv sz z3) (sz + 1) wx wy wd hg (R ++ [q]) := by
  obtain ⟨h0, h1, h2, h3, h4⟩ := h
  refine ⟨h0, h1, ⟨by omega, by rw [List.length_append]; simp; omega⟩, fun k a b => ?_, fun x y a b c d => ?_⟩
  · by_cases e : k = sz
    · subst e
      rw [upI_eq, upI_eq, upI_eq, upI_eq]
      omega
    · rw [upI_ne _ _ e, upI_ne _ _ e, upI_ne _ _ e, upI_ne _ _ e]
      exact h3 k a (by omega)
  · rw [covL_app, covL_one, an_s h2.1, h4 x y a b c d]
    congr 1
    · rw [Bool.eq_iff_iff, an_iff, an_iff]
      have key : ∀ k, k < sz → hit (upI fx sz z0) (upI fy sz z1) (upI fu sz z2) (upI fv sz z3) x y k = hit fx fy fu fv x y k := by
        intro k hk
        have e : k ≠ sz := by omega
        unfold hit
        rw [upI_ne _ _ e, upI_ne _ _ e, upI_ne _ _ e, upI_ne _ _ e]
      exact ⟨fun ⟨k, p, r⟩ => ⟨k, p, by rw [key k p.2]; exact r⟩, fun ⟨k, p, r⟩ => ⟨k, p, by rw [key k p.2] at r; exact r⟩⟩
    · unfold inQ hit
      rw [upI_eq, upI_eq, upI_eq, upI_eq]
      exact decide_eq_decide.mpr (by omega)
/-! the counting sort -/
def psn (f : Int → Int) (n k : Int) : Int := cn (fun j => decide (f j < f k)) 0 n + cn (fun j => decide (f j = f k)) 0 k
theorem cn_leq (f : Int → Int) (v a b : Int) : cn (fun j => decide (f j ≤ v)) a b = cn (fun j => decide (f j < v)) a b + cn (fun j => decide (f j = v)) a b := by
  refine cn_or fun x _ _ => bi_or ?_ ?_
  · rw [Bool.eq_iff_iff, Bool.or_eq_true]
    simp only [decide_eq_true_eq]
    omega
  · simp only [decide_eq_true_eq]
    omega
theorem psn_lt {f : Int → Int} {n k j : Int} (hk : 0 ≤ k ∧ k < n) (hj : 0 ≤ j ∧ j < n) (h : f k < f j) : psn f n k < psn f n j := by
  unfold psn
  have h1 := cn_leq f (f k) 0 n
  have h2 : cn (fun i => decide (f i ≤ f k)) 0 n ≤ cn (fun i => decide (f i < f j)) 0 n := cn_le fun x _ _ q => by
    simp only [decide_eq_true_eq] at q ⊢
    omega
  have h3 : cn (fun i => decide (f i = f k)) 0 n = cn (fun i => decide (f i = f k)) 0 k + cn (fun i => decide (f i = f k)) k n := cn_sp hk.1 (by omega)
  have h4 : 0 < cn (fun i => decide (f i = f k)) k n := cn_one (x := k) (by omega) (by omega) (dec_t rfl)
  have h5 := (cn_bd (P := fun i => decide (f i = f j)) hj.1).1
  omega
theorem psn_eq {f : Int → Int} {n k j : Int} (hk : 0 ≤ k) (hj : k < j) (h : f k = f j) : psn f n k < psn f n j := by
  unfold psn
  rw [h]
  have h3 : cn (fun i => decide (f i = f j)) 0 j = cn (fun i => decide (f i = f j)) 0 k + cn (fun i => decide (f i = f j)) k j := cn_sp hk (by omega)
  have h4 : 0 < cn (fun i => decide (f i = f j)) k j := cn_one (x := k) (by omega) (by omega) (dec_t h)
  omega
theorem psn_ne {f : Int → Int} {n k j : Int} (hk : 0 ≤ k ∧ k < n) (hj : 0 ≤ j ∧ j < n) (h : k ≠ j) : psn f n k ≠ psn f n j := by
  rcases Int.lt_trichotomy (f k) (f j) with q | q | q
  · have := psn_lt hk hj q; omega
  · rcases Int.lt_or_lt_of_ne h with r | r
    · have := psn_eq (n := n) hk.1 r q; omega
    · have := psn_eq (n := n) hj.1 r q.symm; omega
  · have := psn_lt hj hk q; omega
theorem psn_bd {f : Int → Int} {n k : Int} (hk : 0 ≤ k ∧ k < n) : 0 ≤ psn f n k ∧ psn f n k < n := by
  unfold psn
  have h1 := cn_leq f (f k) 0 n
  have h2 := cn_bd (P := fun j => decide (f j ≤ f k)) (show 0 ≤ n by omega)
  have h3 : cn (fun i => decide (f i = f k)) 0 n = cn (fun i => decide (f i = f k)) 0 k + cn (fun i => decide (f i = f k)) k n := cn_sp hk.1 (by omega)
  have h4 : 0 < cn (fun i => decide (f i = f k)) k n := cn_one (x := k) (by omega) (by omega) (dec_t rfl)
  have h5 := cn_bd (P := fun i => decide (f i = f k)) hk.1
  have h6 := cn_bd (P := fun i => decide (f i < f k)) (show 0 ≤ n by omega)
  omega
theorem psn_onto {f : Int → Int} {n y : Int} (hy : 0 ≤ y ∧ y < n) : ∃ k, (0 ≤ k ∧ k < n) ∧ psn f n k = y := by
  obtain ⟨i, hi, h⟩ := fb_onto (n := n.toNat) (f := fun i => (psn f n (i : Int)).toNat) (fun i hi => by
    have := psn_bd (f := f) (n := n) (k := i) (by omega); omega) (fun i j hij hj e => by
    have h1 := psn_bd (f := f) (n := n) (k := i) (by omega)
    have h2 := psn_bd (f := f) (n := n) (k := j) (by omega)
    have h3 := psn_ne (f := f) (n := n) (k := i) (j := j) (by omega) (by omega) (by omega)
    omega) (y := y.toNat) (by omega)
  have h1 := psn_bd (f := f) (n := n) (k := i) (by omega)
  exact ⟨i, by omega, by omega⟩
/-- the order by the left side -/
def srt (fx : Int → Int) (sz : Int) (fb : Int → Int) : Prop := ∀ k, 0 ≤ k → k < sz → fb (psn fx sz k) = k
theorem srt_in {fx fb : Int → Int} {sz n : Int} (h : srt fx sz fb) (hn : 0 ≤ n ∧ n < sz) : 0 ≤ fb n ∧ fb n < sz ∧ psn fx sz (fb n) = n := by
  obtain ⟨k, hk, e⟩ := psn_onto (f := fx) hn
  have := h k hk.1 hk.2
  rw [e] at this
  rw [this]
  exact ⟨hk.1, hk.2, e⟩
theorem srt_le {fx fb : Int → Int} {sz m n : Int} (h : srt fx sz fb) (hm : 0 ≤ m) (hmn : m < n) (hn : n < sz) : fx (fb m) ≤ fx (fb n) := by
  obtain ⟨a1, a2, a3⟩ := srt_in h (n := m) (by omega)
  obtain ⟨b1, b2, b3⟩ := srt_in h (n := n) (by omega)
  rcases Int.lt_or_le (fx (fb n)) (fx (fb m)) with q | q
  · have := psn_lt (f := fx) (n := sz) ⟨b1, b2⟩ ⟨a1, a2⟩ q
    omega
  · exact q
theorem srt_to {fx fb : Int → Int} {sz k : Int} (h : srt fx sz fb) (hk : 0 ≤ k ∧ k < sz) : ∃ n, (0 ≤ n ∧ n < sz) ∧ fb n = k := ⟨psn fx sz k, psn_bd hk, h k hk.1 hk.2⟩
/-! the length in a row -/
def act (fx fy fu fv fb : Int → Int) (y x m : Int) : Bool := hit fx fy fu fv x y (fb m)
def lir (fx fy fu fv fb : Int → Int) (sz wd y i len rch : Int) : Prop := (0 ≤ i ∧ i ≤ sz) ∧ (0 ≤ rch ∧ rch ≤ wd) ∧ (0 ≤ len ∧ len ≤ wd) ∧ len = cn (fun x => an (act fx fy fu fv fb y x) i) 0 wd ∧ (rch = 0 ∨ ∃ m, (0 ≤ m ∧ m < i) ∧ (fy (fb m) ≤ y ∧ y < fv (fb m)) ∧ fu (fb m) = rch) ∧ ∀ m, 0 ≤ m → m < i → fy (fb m) ≤ y → y < fv (fb m) → fu (fb m) ≤ rch
theorem lir_0 {fx fy fu fv fb : Int → Int} {sz wd y : Int} (h : 0 ≤ sz) (h2 : 0 ≤ wd) : lir fx fy fu fv fb sz wd y 0 0 0 :=
  ⟨⟨by omega, h⟩, ⟨by omega, h2⟩, ⟨by omega, h2⟩, (cn_no fun x _ _ => an_0 (Int.le_refl 0)).symm, Or.inl rfl, fun m h1 h2 => by omega⟩
theorem lir_n {fx fy fu fv fb : Int → Int} {sz wd y i len rch : Int} (h : lir fx fy fu fv fb sz wd y i len rch) (hi : i < sz) (hn : ∀ x, 0 ≤ x → x < wd → act fx fy fu fv fb y x i = true → an (act fx fy fu fv fb y x) i = true) (hf : fy (fb i) ≤ y → y < fv (fb i) → fu (fb i) ≤ rch) : lir fx fy fu fv fb sz wd y (i + 1) len rch := by
  obtain ⟨h1, h2, h3, h4, h5, h6⟩ := h
  refine ⟨by omega, h2, h3, ?_, ?_, ?_⟩
  · rw [h4]
    refine cn_cg fun x a b => ?_
    rw [an_s h1.1]
    cases c : act fx fy fu fv fb y x i
    · rw [Bool.or_false]
    · rw [hn x a b c]; rfl
  · rcases h5 with q | ⟨m, q, r⟩
    · exact Or.inl q
    · exact Or.inr ⟨m, by omega, r⟩
  · intro m a b c d
    by_cases e : m = i
    · subst e; exact hf c d
    · exact h6 m a (by omega) c d
theorem lir_y {fx fy fu fv fb : Int → Int} {sz wd y i len rch : Int} (h : lir fx fy fu fv fb sz wd y i len rch) (hi : i < sz) (hn : ¬ (fy (fb i) ≤ y ∧ y < fv (fb i))) : lir fx fy fu fv fb sz wd y (i + 1) len rch :=
  lir_n h hi (fun x _ _ q => by
    have := hit_iff.mp q; omega) (fun a b => absurd ⟨a, b⟩ hn)
theorem lir_r {fx fy fu fv fb : Int → Int} {sz wd y i len rch : Int} (h : lir fx fy fu fv fb sz wd y i len rch) (hs : srt fx sz fb) (hi : i < sz) (hn : fu (fb i) ≤ rch) : lir fx fy fu fv fb sz wd y (i + 1) len rch := by
  refine lir_n h hi (fun x a b q => ?_) (fun _ _ => hn)
  obtain ⟨h1, h2, h3, h4, h5, h6⟩ := h
  have := hit_iff.mp q
  rcases h5 with r | ⟨m, p, r, t⟩
  · omega
  · have := srt_le hs p.1 p.2 hi
    exact an_iff.mpr ⟨m, p, hit_iff.mpr (by omega)⟩
theorem lir_a {fx fy fu fv fb : Int → Int} {sz wd hg y i len rch : Int} (h : lir fx fy fu fv fb sz wd y i len rch) (hs : srt fx sz fb) (hr : rcs fx fy fu fv sz wd hg) (hi : i < sz) (hy : fy (fb i) ≤ y ∧ y < fv (fb i)) (hn : rch < fu (fb i)) : lir fx fy fu fv fb sz wd y (i + 1) (len + (fu (fb i) - max (fx (fb i)) rch)) (fu (fb i)) := by
  obtain ⟨h1, h2, h3, h4, h5, h6⟩ := h
  have hb := srt_in hs ⟨h1.1, hi⟩
  have hk := hr (fb i) hb.1 hb.2.1
  have e : cn (fun x => an (act fx fy fu fv fb y x) (i + 1)) 0 wd = len + (fu (fb i) - max (fx (fb i)) rch) := by
    have e1 : cn (fun x => decide (max (fx (fb i)) rch ≤ x ∧ x < fu (fb i))) 0 wd = fu (fb i) - max (fx (fb i)) rch := by
      rw [cn_in (c := max (fx (fb i)) rch) (d := fu (fb i)) (by omega) (by omega) (by omega) (fun x _ _ q => by simpa using q)]
      exact cn_al (by omega) fun x a b => dec_t ⟨a, b⟩
    rw [h4, ← e1]
    refine cn_or fun x a b => bi_or ?_ ?_
    · rw [an_s h1.1]
      cases c : an (act fx fy fu fv fb y x) i
      · rw [Bool.false_or, Bool.false_or]
        rw [Bool.eq_iff_iff]
        unfold act
        rw [hit_iff, decide_eq_true_iff]
        constructor
        · intro q
          rcases Int.lt_or_le x rch with r | r
          · exfalso
            rcases h5 with t | ⟨m, p, t, u⟩
            · omega
            · have := srt_le hs p.1 p.2 hi
              have : an (act fx fy fu fv fb y x) i = true := an_iff.mpr ⟨m, p, hit_iff.mpr (by omega)⟩
              rw [c] at this
              exact Bool.noConfusion this
          · omega
        · intro q
          omega
      · rfl
    · rintro ⟨p, q⟩
      obtain ⟨m, r, t⟩ := an_iff.mp p
      have t := hit_iff.mp t
      have q := decide_eq_true_iff.mp q
      have := h6 m r.1 r.2 (by omega) (by omega)
      omega
  have hbd := cn_bd (P := fun x => an (act fx fy fu fv fb y x) (i + 1)) (show 0 ≤ wd by omega)
  rw [e] at hbd
  refine ⟨by omega, by omega, by omega, e.symm, Or.inr ⟨i, by omega, hy, rfl⟩, ?_⟩
  intro m a b c d
  by_cases q : m = i
  · subst q; omega
  · have := h6 m a (by omega) c d; omega
theorem lir_e {fx fy fu fv fb : Int → Int} {sz wx wy wd hg y len rch : Int} {R : List jQ} (h : lir fx fy fu fv fb sz wd y sz len rch) (hs : srt fx sz fb) (hc : cv fx fy fu fv sz wx wy wd hg R) (hy : 0 ≤ y ∧ y < hg) : len = cn (fun x => covL R (x + wx) (y + wy)) 0 wd := by
  obtain ⟨h1, h2, h3, h4, h5, h6⟩ := h
  rw [h4]
  refine cn_cg fun x a b => ?_
  rw [hc.2.2.2.2 x y a b hy.1 hy.2, Bool.eq_iff_iff, an_iff, an_iff]
  constructor
  · rintro ⟨m, p, q⟩
    have := srt_in hs p
    exact ⟨fb m, ⟨this.1, this.2.1⟩, q⟩
  · rintro ⟨k, p, q⟩
    obtain ⟨n, r, t⟩ := srt_to hs p
    exact ⟨n, r, by unfold act; rw [t]; exact q⟩
/-! the cuts and the slabs -/
def cts (fy fv fc : Int → Int) (sz hg : Int) : Prop := ∀ y, 0 ≤ y → y ≤ hg → (fc y = 0 ∨ fc y = 1) ∧ (fc y = 1 ↔ ∃ k, (0 ≤ k ∧ k < sz) ∧ (fy k = y ∨ fv k = y))
theorem cts_0 {fy fv fc : Int → Int} {hg : Int} (h : ∀ y, 0 ≤ y → y ≤ hg → fc y = 0) : cts fy fv fc 0 hg := fun y a b => ⟨Or.inl (h y a b), fun q => by rw [h y a b] at q; omega, fun ⟨k, p, _⟩ => by omega⟩
theorem cts_s {fy fv fc : Int → Int} {sz hg : Int} (h : cts fy fv fc sz hg) (h0 : 0 ≤ sz) : cts fy fv (upI (upI fc (fy sz) 1) (fv sz) 1) (sz + 1) hg := by
  intro y a b
  obtain ⟨h1, h2⟩ := h y a b
  by_cases e : y = fv sz
  · rw [e, upI_eq]
    exact ⟨Or.inr rfl, fun _ => ⟨sz, by omega, Or.inr rfl⟩, fun _ => rfl⟩
  · by_cases e2 : y = fy sz
    · rw [upI_ne _ _ e, e2, upI_eq]
      exact ⟨Or.inr rfl, fun _ => ⟨sz, by omega, Or.inl rfl⟩, fun _ => rfl⟩
    · rw [upI_ne _ _ e, upI_ne _ _ e2]
      refine ⟨h1, h2.trans ⟨fun ⟨k, p, q⟩ => ⟨k, by omega, q⟩, fun ⟨k, p, q⟩ => ?_⟩⟩
      by_cases e3 : k = sz
      · subst e3; exact q.elim (fun r => (e2 r.symm).elim) (fun r => (e r.symm).elim)
      · exact ⟨k, by omega, q⟩
def slb (fx fy fu fv fc : Int → Int) (sz wx wy wd hg : Int) (R : List jQ) (y from9 sum : Int) : Prop := (1 ≤ y ∧ y ≤ hg + 1) ∧ (0 ≤ from9 ∧ from9 < y) ∧ sum = cm (fun x y => covL R (x + wx) (y + wy)) 0 wd 0 from9 ∧ ∀ v, from9 < v → v < y → fc v = 0
theorem row_eq {fx fy fu fv fc : Int → Int} {sz wx wy wd hg : Int} {R : List jQ} (hc : cv fx fy fu fv sz wx wy wd hg R) (ht : cts fy fv fc sz hg) {a b : Int} (ha : 0 ≤ a) (hab : a ≤ b) (hb : b < hg) (hz : ∀ v, a < v → v ≤ b → fc v = 0) {x : Int} (hx : 0 ≤ x ∧ x < wd) : covL R (x + wx) (b + wy) = covL R (x + wx) (a + wy) := by
  rw [hc.2.2.2.2 x b hx.1 hx.2 (by omega) hb, hc.2.2.2.2 x a hx.1 hx.2 ha (by omega), Bool.eq_iff_iff, an_iff, an_iff]
  have key : ∀ k, 0 ≤ k → k < sz → ∀ v, a < v → v ≤ b → fy k ≠ v ∧ fv k ≠ v := by
    intro k p q v r t
    have h1 := hz v r t
    have h2 := (ht v (by omega) (by omega)).2
    have h3 : ¬ ∃ k, (0 ≤ k ∧ k < sz) ∧ (fy k = v ∨ fv k = v) := fun u => by have := h2.mpr u; omega
    exact ⟨fun u => h3 ⟨k, ⟨p, q⟩, Or.inl u⟩, fun u => h3 ⟨k, ⟨p, q⟩, Or.inr u⟩⟩
  constructor
  · rintro ⟨k, p, q⟩
    have q := hit_iff.mp q
    refine ⟨k, p, hit_iff.mpr ?_⟩
    have h1 : ¬ (a < fy k ∧ fy k ≤ b) := fun u => (key k p.1 p.2 (fy k) u.1 u.2).1 rfl
    omega
  · rintro ⟨k, p, q⟩
    have q := hit_iff.mp q
    refine ⟨k, p, hit_iff.mpr ?_⟩
    have h1 : ¬ (a < fv k ∧ fv k ≤ b) := fun u => (key k p.1 p.2 (fv k) u.1 u.2).2 rfl
    omega
theorem slb_0 {fx fy fu fv fc : Int → Int} {sz wx wy wd hg : Int} {R : List jQ} (h : 0 ≤ hg) : slb fx fy fu fv fc sz wx wy wd hg R 1 0 0 := ⟨by omega, by omega, (cm_0 (Int.le_refl 0)).symm, fun v a b => by omega⟩
theorem slb_n {fx fy fu fv fc : Int → Int} {sz wx wy wd hg : Int} {R : List jQ} {y from9 sum : Int} (h : slb fx fy fu fv fc sz wx wy wd hg R y from9 sum) (hy : y ≤ hg) (hz : fc y = 0) : slb fx fy fu fv fc sz wx wy wd hg R (y + 1) from9 sum := by
  obtain ⟨h1, h2, h3, h4⟩ := h
  refine ⟨by omega, by omega, h3, fun v a b => ?_⟩
  by_cases e : v = y
  · rw [e]; exact hz
  · exact h4 v a (by omega)
theorem slb_s {fx fy fu fv fc : Int → Int} {sz wx wy wd hg : Int} {R : List jQ} {y from9 sum : Int} (h : slb fx fy fu fv fc sz wx wy wd hg R y from9 sum) (hc : cv fx fy fu fv sz wx wy wd hg R) (ht : cts fy fv fc sz hg) (hy : y ≤ hg) : slb fx fy fu fv fc sz wx wy wd hg R (y + 1) y (sum + (y - from9) * cn (fun x => covL R (x + wx) (from9 + wy)) 0 wd) := by
  obtain ⟨h1, h2, h3, h4⟩ := h
  refine ⟨by omega, by omega, ?_, fun v a b => by omega⟩
  rw [cm_sp (P := fun x y => covL R (x + wx) (y + wy)) h2.1 (by omega : from9 ≤ y), ← h3]
  congr 1
  refine (sm_c (by omega) fun v a b => cn_cg fun x p q => ?_).symm
  exact row_eq hc ht h2.1 a (by omega) (fun w r t => h4 w r (by omega)) ⟨p, q⟩
theorem slb_e {fx fy fu fv fc : Int → Int} {sz wx wy wd hg : Int} {R : List jQ} {y from9 sum : Int} (h : slb fx fy fu fv fc sz wx wy wd hg R y from9 sum) (hc : cv fx fy fu fv sz wx wy wd hg R) (ht : cts fy fv fc sz hg) (hy : hg < y) : sum = cm (covL R) wx (wx + wd) wy (wy + hg) := by
  obtain ⟨h1, h2, h3, h4⟩ := h
  have e := cm_sh (covL R) wx wy 0 wd 0 hg
  rw [Int.zero_add, Int.zero_add, Int.add_comm wd wx, Int.add_comm hg wy] at e
  rw [← e, cm_sp (P := fun x y => covL R (x + wx) (y + wy)) h2.1 (by omega : from9 ≤ hg), ← h3]
  have e2 : cm (fun x y => covL R (x + wx) (y + wy)) 0 wd from9 hg = 0 := by
    refine cm_no fun x y a b c d => ?_
    rw [hc.2.2.2.2 x y a b (by omega) d]
    cases q : an (hit fx fy fu fv x y) sz
    · rfl
    · exfalso
      obtain ⟨k, p, r⟩ := an_iff.mp q
      have r := hit_iff.mp r
      have hk := hc.2.2.2.1 k p.1 p.2
      have h5 := h4 (fv k) (by omega) (by omega)
      have h6 := (ht (fv k) (by omega) (by omega)).2.mpr ⟨k, p, Or.inr rfl⟩
      omega
  omega
theorem slb_bd {fx fy fu fv fc : Int → Int} {sz wx wy wd hg : Int} {R : List jQ} {y from9 sum : Int} (h : slb fx fy fu fv fc sz wx wy wd hg R y from9 sum) (hc : cv fx fy fu fv sz wx wy wd hg R) : 0 ≤ sum ∧ sum ≤ 1001000 := by
  obtain ⟨h1, h2, h3, h4⟩ := h
  have hw := hc.2.1
  have := cm_bd (P := fun x y => covL R (x + wx) (y + wy)) (a := 0) (b := wd) (c := 0) (d := from9) (by omega) h2.1
  rw [← h3] at this
  have h5 : (from9 - 0) * (wd - 0) ≤ 1001 * 1000 := Int.mul_le_mul (by omega) (by omega) (by omega) (by omega)
  omega
