/-! the grid of a tile's places; the slots -/
def gbit (f : Int → Int64) (i j : Int) : Bool := wb (f j) i.toNat
def gtc (tx ty ps pt gr : Int) (q : jQ) (i j : Int) : Bool := decide (tx + i * pt - gr < q.2.2.2.2.1 ∧ q.2.2.1 < tx + i * pt + ps + gr ∧ ty + j * pt - gr < q.2.2.2.2.2 ∧ q.2.2.2.1 < ty + j * pt + ps + gr)
def gta (tx ty ps pt gr : Int) (L : List jQ) (i j : Int) : Bool := L.any fun q => gtc tx ty ps pt gr q i j
theorem gta_app (tx ty ps pt gr : Int) (L M : List jQ) (i j : Int) : gta tx ty ps pt gr (L ++ M) i j = (gta tx ty ps pt gr L i j || gta tx ty ps pt gr M i j) := List.any_append
theorem gta_one (tx ty ps pt gr : Int) (q : jQ) (i j : Int) : gta tx ty ps pt gr [q] i j = gtc tx ty ps pt gr q i j := by unfold gta; simp
def grI (f : Int → Int64) (sd : Int) (B : Int → Int → Bool) : Prop := ∀ i j, 0 ≤ i → i < sd → 0 ≤ j → j < sd → gbit f i j = B i j
def grm (f g : Int → Int64) (fr to9 jf j9 : Int) : Prop := ∀ i j, 0 ≤ i → i < 64 → 0 ≤ j → gbit g i j = (gbit f i j || decide (fr ≤ i ∧ i ≤ to9 ∧ jf ≤ j ∧ j < j9))
theorem grm_0 {f : Int → Int64} {fr to9 jf : Int} : grm f f fr to9 jf jf := fun i j _ _ _ => by rw [dec_f (by omega), Bool.or_false]
theorem grm_s {f g : Int → Int64} {m : Int64} {fr to9 jf j9 : Int} (h : grm f g fr to9 jf j9) (hj : jf ≤ j9) (hm : ∀ b : Nat, b < 64 → wb m b = decide (fr ≤ (b : Int) ∧ (b : Int) ≤ to9)) : grm f (upW g j9 (g j9 ||| m)) fr to9 jf (j9 + 1) := fun i j a b c => by
  unfold gbit
  by_cases q : j = j9
  · subst q
    have := h i j a b c
    unfold gbit at this
    rw [upW_eq, wb_or, this, Bool.or_assoc]
    congr 1
    rw [hm i.toNat (by omega), Bool.eq_iff_iff]
    simp only [Bool.or_eq_true, decide_eq_true_eq]
    omega
  · have := h i j a b c
    unfold gbit at this
    rw [upW_ne _ _ q, this]
    congr 1
    exact decide_eq_decide.mpr (by omega)
theorem fl_lo {a p i : Int} (hp : 0 < p) : a / p + 1 ≤ i ↔ a < i * p := by
  have := Int.ediv_lt_iff_lt_mul (a := a) (b := i) hp
  omega
theorem fl_hi {a p i : Int} (hp : 0 < p) : i ≤ a / p ↔ i * p ≤ a := Int.le_ediv_iff_mul_le hp
theorem fl_bd {a p : Int} (hp : 0 < p) (ha : -100000 ≤ a ∧ a ≤ 100000) : -100000 ≤ a / p ∧ a / p ≤ 100000 := by
  constructor
  · rw [fl_hi hp]
    have : (-100000) * p ≤ (-100000) * 1 := Int.mul_le_mul_of_nonpos_left (by omega) (by omega)
    omega
  · have h1 := (fl_hi (a := a) (i := a / p) hp).mp (Int.le_refl _)
    rcases Int.lt_or_le 100000 (a / p) with q | q
    · have : 100001 * 1 ≤ a / p * p := Int.mul_le_mul (by omega) (by omega) (by omega) (by omega)
      omega
    · exact q
/-- a rectangle's rows of bits are closed -/
theorem grI_s {f g : Int → Int64} {sd tx ty ps pt gr fr to9 jf jt j9 : Int} {q : jQ} {B : Int → Int → Bool} (h : grI f sd B) (hm : grm f g fr to9 jf j9) (hs : sd ≤ 50) (hp : 0 < pt) (e1 : fr = max 0 ((q.2.2.1 - tx - gr - ps) / pt + 1)) (e2 : to9 = min (sd - 1) ((q.2.2.2.2.1 - tx + gr - 1) / pt)) (e3 : jf = max 0 ((q.2.2.2.1 - ty - gr - ps) / pt + 1)) (e4 : jt = min (sd - 1) ((q.2.2.2.2.2 - ty + gr - 1) / pt)) (hj : jt < j9 ∧ j9 ≤ max jf (jt + 1)) : grI g sd (fun i j => B i j || gtc tx ty ps pt gr q i j) := fun i j a b c d => by
  rw [hm i j a (by omega) c, h i j a b c d]
  congr 1
  have a1 := fl_lo (a := q.2.2.1 - tx - gr - ps) (i := i) hp
  have a2 := fl_hi (a := q.2.2.2.2.1 - tx + gr - 1) (i := i) hp
  have a3 := fl_lo (a := q.2.2.2.1 - ty - gr - ps) (i := j) hp
  have a4 := fl_hi (a := q.2.2.2.2.2 - ty + gr - 1) (i := j) hp
  unfold gtc
  refine decide_eq_decide.mpr ?_
  constructor
  · intro r
    have b1 := a1.mp (by omega)
    have b2 := a2.mp (by omega)
    have b3 := a3.mp (by omega)
    have b4 := a4.mp (by omega)
    omega
  · intro r
    have b1 := a1.mpr (by omega)
    have b2 := a2.mpr (by omega)
    have b3 := a3.mpr (by omega)
    have b4 := a4.mpr (by omega)
    omega
theorem grI_n {f : Int → Int64} {sd tx ty ps pt gr fr to9 : Int} {q : jQ} {B : Int → Int → Bool} (h : grI f sd B) (hp : 0 < pt) (e1 : fr = max 0 ((q.2.2.1 - tx - gr - ps) / pt + 1)) (e2 : to9 = min (sd - 1) ((q.2.2.2.2.1 - tx + gr - 1) / pt)) (hj : to9 < fr) : grI f sd (fun i j => B i j || gtc tx ty ps pt gr q i j) := fun i j a b c d => by
  rw [h i j a b c d]
  have a1 := fl_lo (a := q.2.2.1 - tx - gr - ps) (i := i) hp
  have a2 := fl_hi (a := q.2.2.2.2.1 - tx + gr - 1) (i := i) hp
  have : gtc tx ty ps pt gr q i j = false := by
    unfold gtc
    refine dec_f fun r => ?_
    have b1 := a1.mpr (by omega)
    have b2 := a2.mpr (by omega)
    omega
  show B i j = (B i j || gtc tx ty ps pt gr q i j)
  rw [this, Bool.or_false]
theorem grI_c {f : Int → Int64} {sd : Int} {B C : Int → Int → Bool} (h : grI f sd B) (e : ∀ i j, B i j = C i j) : grI f sd C := fun i j a b c d => by rw [h i j a b c d, e]
def slN (q : jQ) (w : Int) : Int := if min (q.2.2.2.2.1 - q.2.2.1) (q.2.2.2.2.2 - q.2.2.2.1) < 2 * w + 2 then 0 else (min (q.2.2.2.2.1 - q.2.2.1) (q.2.2.2.2.2 - q.2.2.2.1) - w) / (w + 2)
theorem slN_bd {q : jQ} {w : Int} (hq : okQ q) (hw : 1 ≤ w) : 0 ≤ slN q w ∧ slN q w ≤ 1000 ∧ ∀ k, 0 ≤ k → k < slN q w → w + k * (w + 2) + 2 ≤ min (q.2.2.2.2.1 - q.2.2.1) (q.2.2.2.2.2 - q.2.2.2.1) := by
  unfold okQ at hq
  unfold slN
  split
  · exact ⟨by omega, by omega, fun k a b => by omega⟩
  · have h1 : 0 ≤ (min (q.2.2.2.2.1 - q.2.2.1) (q.2.2.2.2.2 - q.2.2.2.1) - w) / (w + 2) := Int.ediv_nonneg (by omega) (by omega)
    have h2 := (fl_hi (a := min (q.2.2.2.2.1 - q.2.2.1) (q.2.2.2.2.2 - q.2.2.2.1) - w) (p := w + 2) (i := (min (q.2.2.2.2.1 - q.2.2.1) (q.2.2.2.2.2 - q.2.2.2.1) - w) / (w + 2)) (by omega)).mp (Int.le_refl _)
    refine ⟨h1, ?_, fun k a b => ?_⟩
    · rcases Int.lt_or_le 1000 ((min (q.2.2.2.2.1 - q.2.2.1) (q.2.2.2.2.2 - q.2.2.2.1) - w) / (w + 2)) with r | r
      · have : 1001 * 1 ≤ (min (q.2.2.2.2.1 - q.2.2.1) (q.2.2.2.2.2 - q.2.2.2.1) - w) / (w + 2) * (w + 2) := Int.mul_le_mul (by omega) (by omega) (by omega) (by omega)
        omega
      · exact r
    · have h3 : (k + 1) * (w + 2) ≤ (min (q.2.2.2.2.1 - q.2.2.1) (q.2.2.2.2.2 - q.2.2.2.1) - w) / (w + 2) * (w + 2) := Int.mul_le_mul_of_nonneg_right (by omega) (by omega)
      rw [Int.add_mul, Int.one_mul] at h3
      omega
def slS (q : jQ) (w k sd : Int) : Int :=
  if q.2.2.2.2.2 - q.2.2.2.1 ≤ q.2.2.2.2.1 - q.2.2.1 then (if sd = 0 then q.2.2.1 + w else if sd = 1 then q.2.2.2.1 + (w + k * (w + 2)) else if sd = 2 then q.2.2.2.2.1 - w else q.2.2.2.1 + (w + k * (w + 2)) + 2)
  else (if sd = 0 then q.2.2.1 + (w + k * (w + 2)) else if sd = 1 then q.2.2.2.1 + w else if sd = 2 then q.2.2.1 + (w + k * (w + 2)) + 2 else q.2.2.2.2.2 - w)
