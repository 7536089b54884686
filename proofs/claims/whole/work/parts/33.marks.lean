/-! maps of bits, sixteen words a row; the places that are barred; the first place -/
def mk (f : Int → Int64) (x y : Int) : Bool := wb (f (16 * y + x / 64)) (x % 64).toNat
def mspec (m : Int64) (a e w : Int) : Prop := ∀ b : Nat, b < 64 → wb m b = decide (a ≤ 64 * w + (b : Int) ∧ 64 * w + (b : Int) < e)
def mkr (f g : Int → Int64) (a e t y w : Int) : Prop := ∀ x v, 0 ≤ x → x < 1024 → 0 ≤ v → v < 1000 → mk g x v = (mk f x v || decide (a ≤ x ∧ x < e ∧ t ≤ v ∧ (v < y ∨ (v = y ∧ x < 64 * w))))
theorem mkr_0 {f : Int → Int64} {a e t : Int} : mkr f f a e t t (a / 64) := fun x v _ _ _ _ => by
  rw [dec_f (by omega), Bool.or_false]
theorem mkr_row {f g : Int → Int64} {a e t y w : Int} (h : mkr f g a e t y w) (hw : e ≤ 64 * w) : mkr f g a e t (y + 1) (a / 64) := fun x v a1 a2 a3 a4 => by
  rw [h x v a1 a2 a3 a4]
  congr 1
  exact decide_eq_decide.mpr (by omega)
theorem mk_up {g : Int → Int64} {m : Int64} {k y w x v : Int} (hk : k = 16 * y + w) (hw : 0 ≤ w ∧ w < 16) (hx : 0 ≤ x ∧ x < 1024) : mk (upW g k (g k ||| m)) x v = (mk g x v || (decide (v = y ∧ x / 64 = w) && wb m (x % 64).toNat)) := by
  unfold mk
  by_cases q : v = y ∧ x / 64 = w
  · rw [dec_t q, Bool.true_and, show 16 * v + x / 64 = k by omega, upW_eq, wb_or]
  · rw [dec_f q, Bool.false_and, Bool.or_false, upW_ne _ _ (by omega)]
theorem mkr_step {f g : Int → Int64} {m : Int64} {a e t y w k : Int} (h : mkr f g a e t y w) (hk : k = 16 * y + w) (hw : 0 ≤ w ∧ w < 16) (ht : t ≤ y) (hm : mspec m a e w) : mkr f (upW g k (g k ||| m)) a e t y (w + 1) := fun x v a1 a2 a3 a4 => by
  rw [mk_up hk hw ⟨a1, a2⟩, h x v a1 a2 a3 a4, Bool.or_assoc]
  congr 1
  rw [hm (x % 64).toNat (by omega), Bool.eq_iff_iff]
  simp only [Bool.or_eq_true, Bool.and_eq_true, decide_eq_true_eq]
  omega
theorem mkr_end {f g : Int → Int64} {a e t y : Int} (h : mkr f g a e t y (a / 64)) : ∀ x v, 0 ≤ x → x < 1024 → 0 ≤ v → v < 1000 → mk g x v = (mk f x v || decide (a ≤ x ∧ x < e ∧ t ≤ v ∧ v < y)) := fun x v a1 a2 a3 a4 => by
  rw [h x v a1 a2 a3 a4]
  congr 1
  exact decide_eq_decide.mpr (by omega)
/-- places that a diode can't have because of a rectangle -/
def tch (q : jQ) (x y : Int) : Bool := decide (q.2.2.1 - 5 ≤ x ∧ x ≤ q.2.2.2.2.1 + 1 ∧ q.2.2.2.1 - 5 ≤ y ∧ y ≤ q.2.2.2.2.2 + 1)
def brd (L : List jQ) (x y : Int) : Bool := L.any fun q => tch q x y
theorem brd_app (L M : List jQ) (x y : Int) : brd (L ++ M) x y = (brd L x y || brd M x y) := List.any_append
theorem brd_one (q : jQ) (x y : Int) : brd [q] x y = tch q x y := by unfold brd; simp
def stI (f : Int → Int64) (BL : List jQ) : Prop := ∀ x y, 2 ≤ x → x ≤ 994 → 2 ≤ y → y ≤ 994 → mk f x y = brd BL x y
theorem stI_0 {f : Int → Int64} (h : ∀ k, 0 ≤ k → k < 16000 → f k = jL 0) : stI f [] := fun x y a b c d => by
  unfold mk
  rw [h _ (by omega) (by omega), wb_0]
  rfl
theorem stI_s {f g : Int → Int64} {BL : List jQ} {q : jQ} {a e t y : Int} (h : stI f BL) (hr : mkr f g a e t y (a / 64)) (ha : a = max 2 (q.2.2.1 - 5)) (he : e = min 994 (q.2.2.2.2.1 + 1) + 1) (ht : t = max 2 (q.2.2.2.1 - 5)) (hy : min 994 (q.2.2.2.2.2 + 1) < y ∧ y ≤ max t (min 994 (q.2.2.2.2.2 + 1) + 1)) : stI g (BL ++ [q]) := fun x v a1 a2 a3 a4 => by
  rw [brd_app, brd_one, mkr_end hr x v (by omega) (by omega) (by omega) (by omega), h x v a1 a2 a3 a4]
  congr 1
  exact decide_eq_decide.mpr (by omega)
def isN (BL : List jQ) (q : jQ) (x y : Int) : Prop := (2 ≤ x ∧ x ≤ 994 ∧ 2 ≤ y ∧ y ≤ 994) ∧ (q.2.2.1 - 23 ≤ x ∧ x ≤ q.2.2.2.2.1 + 19 ∧ q.2.2.2.1 - 23 ≤ y ∧ y ≤ q.2.2.2.2.2 + 19) ∧ brd BL x y = false
def fstP (N : Int → Int → Prop) (z : Int) : Prop := (z = -1 ∧ ∀ x y, ¬ N x y) ∨ (∃ x y, z = y * 1000 + x ∧ N x y ∧ ∀ x2 y2, N x2 y2 → y * 1000 + x ≤ y2 * 1000 + x2)
theorem opn {f : Int → Int64} {BL : List jQ} {q : jQ} {m : Int64} {a e y w k : Int} (h : stI f BL) (hm : mspec m a (e + 1) w) (ha : a = max 2 (q.2.2.1 - 23)) (he : e = min 994 (q.2.2.2.2.1 + 19)) (hy : (2 ≤ y ∧ y ≤ 994) ∧ q.2.2.2.1 - 23 ≤ y ∧ y ≤ q.2.2.2.2.2 + 19) (hk : k = 16 * y + w) (hw : 0 ≤ w ∧ w < 16) {b : Nat} (hb : b < 64) : wb ((f k ^^^ jL (-1)) &&& m) b = true ↔ isN BL q (64 * w + b) y := by
  rw [wb_and, wb_not _ hb, hm b hb, Bool.and_eq_true, decide_eq_true_eq, Bool.not_eq_true']
  have e1 : mk f (64 * w + b) y = wb (f k) b := by
    unfold mk
    rw [show 16 * y + (64 * w + (b : Int)) / 64 = k by omega, show ((64 * w + (b : Int)) % 64).toNat = b by omega]
  unfold isN
  constructor
  · rintro ⟨p, r⟩
    refine ⟨by omega, by omega, ?_⟩
    rw [← h _ _ (by omega) (by omega) (by omega) (by omega), e1]
    exact p
  · rintro ⟨p, r, t⟩
    rw [← h _ _ p.1 p.2.1 p.2.2.1 p.2.2.2, e1] at t
    exact ⟨t, by omega⟩
