/-! the fill of a tile, of a layer -/
abbrev jF : Type := List jQ × Int
def pce (layer px py sz : Int) : jQ := (-1, layer, px, py, px + sz, py + sz)
def bBl (tx ty ps pt aw sp : Int) (L LD LP : List jQ) (layer i j : Int) : Bool := ((false || gta tx ty ps pt aw (L.filter (onL layer)) i j) || gta tx ty ps pt aw (LD.filter (onL layer)) i j) || gta tx ty ps pt sp (LP.filter (onL layer)) i j
theorem grI_0 {f : Int → Int64} {sd : Int} (h : ∀ j, 0 ≤ j → j < 50 → f j = jL 0) (hs : sd ≤ 50) : grI f sd (fun _ _ => false) := fun i j _ _ c d => by
  unfold gbit
  rw [h j c (by omega), wb_0]
def stp9 (ad9 : Int → Int → jQ) (B : Int → Int → Bool) (wt a9 : Int) (st : jF) (i j : Int) : jF := if st.2 < wt ∧ st.1.length < 1500 ∧ B i j = false then (st.1 ++ [ad9 i j], st.2 + a9) else st
def rowF (ad9 : Int → Int → jQ) (B : Int → Int → Bool) (wt a9 j : Int) : Nat → jF → jF
  | 0, st => st
  | n + 1, st => stp9 ad9 B wt a9 (rowF ad9 B wt a9 j n st) n j
def allF (ad9 : Int → Int → jQ) (B : Int → Int → Bool) (wt a9 : Int) (w : Nat) : Nat → jF → jF
  | 0, st => st
  | n + 1, st => rowF ad9 B wt a9 n w (allF ad9 B wt a9 w n st)
theorem stp9_stop {ad9 : Int → Int → jQ} {B : Int → Int → Bool} {wt a9 i j : Int} {st : jF} (h : ¬ (st.2 < wt ∧ st.1.length < 1500 ∧ B i j = false)) : stp9 ad9 B wt a9 st i j = st := if_neg h
theorem stp9_go {ad9 : Int → Int → jQ} {B : Int → Int → Bool} {wt a9 i j : Int} {st : jF} (h : st.2 < wt ∧ st.1.length < 1500 ∧ B i j = false) : stp9 ad9 B wt a9 st i j = (st.1 ++ [ad9 i j], st.2 + a9) := if_pos h
theorem rowF_stop {ad9 : Int → Int → jQ} {B : Int → Int → Bool} {wt a9 j : Int} {st st2 : jF} {n : Nat} (h : rowF ad9 B wt a9 j n st = st2) (hs : ¬ (st2.2 < wt ∧ st2.1.length < 1500)) : ∀ k : Nat, rowF ad9 B wt a9 j (n + k) st = st2
  | 0 => h
  | k + 1 => by
    show stp9 ad9 B wt a9 (rowF ad9 B wt a9 j (n + k) st) ((n + k : Nat) : Int) j = st2
    rw [rowF_stop h hs k]
    exact stp9_stop fun q => hs ⟨q.1, q.2.1⟩
theorem rowF_s {ad9 : Int → Int → jQ} {B : Int → Int → Bool} {wt a9 j i : Int} {st : jF} (h : 0 ≤ i) : rowF ad9 B wt a9 j (i + 1).toNat st = stp9 ad9 B wt a9 (rowF ad9 B wt a9 j i.toNat st) i j := by
  rw [show (i + 1).toNat = i.toNat + 1 by omega]
  show stp9 ad9 B wt a9 (rowF ad9 B wt a9 j i.toNat st) ((i.toNat : Nat) : Int) j = _
  rw [show ((i.toNat : Nat) : Int) = i by omega]
theorem allF_s {ad9 : Int → Int → jQ} {B : Int → Int → Bool} {wt a9 j : Int} {w : Nat} {st : jF} (h : 0 ≤ j) : allF ad9 B wt a9 w (j + 1).toNat st = rowF ad9 B wt a9 j w (allF ad9 B wt a9 w j.toNat st) := by
  rw [show (j + 1).toNat = j.toNat + 1 by omega]
  show rowF ad9 B wt a9 ((j.toNat : Nat) : Int) w (allF ad9 B wt a9 w j.toNat st) = _
  rw [show ((j.toNat : Nat) : Int) = j by omega]
theorem allF_stop {ad9 : Int → Int → jQ} {B : Int → Int → Bool} {wt a9 : Int} {w : Nat} {st : jF} (hs : ¬ (st.2 < wt ∧ st.1.length < 1500)) : ∀ n : Nat, allF ad9 B wt a9 w n st = st
  | 0 => rfl
  | n + 1 => by
    show rowF ad9 B wt a9 n w (allF ad9 B wt a9 w n st) = st
    rw [allF_stop hs n]
    have := rowF_stop (ad9 := ad9) (B := B) (wt := wt) (a9 := a9) (j := n) (st := st) (st2 := st) (n := 0) rfl hs w
    rw [Nat.zero_add] at this
    exact this
def tsd (sz sp : Int) : Int := min 50 ((200 - sz) / (max 1 (sz + sp)) + 1)
def tlF (L LD : List jQ) (wt layer sz sp aw t : Int) (LP : List jQ) : jF :=
  allF (fun i j => pce layer (t % 5 * 200 + i * max 1 (sz + sp)) (t / 5 * 200 + j * max 1 (sz + sp)) sz) (bBl (t % 5 * 200) (t / 5 * 200) sz (max 1 (sz + sp)) aw sp L LD LP layer) wt (sz * sz) (tsd sz sp).toNat (tsd sz sp).toNat (LP, wcn L LD LP layer (t % 5 * 200) (t / 5 * 200))
def flF (L LD : List jQ) (wl wh layer sz sp aw : Int) (LP : List jQ) : Nat → List jQ × List Int
  | 0 => (LP, [])
  | n + 1 => ((tlF L LD wl layer sz sp aw n (flF L LD wl wh layer sz sp aw LP n).1).1, (flF L LD wl wh layer sz sp aw LP n).2 ++ (if (tlF L LD wl layer sz sp aw n (flF L LD wl wh layer sz sp aw LP n).1).2 < wl ∨ wh < (tlF L LD wl layer sz sp aw n (flF L LD wl wh layer sz sp aw LP n).1).2 then [(n : Int)] else []))
theorem pce_ok {layer x y sz pt i j : Int} (hl : 0 ≤ layer ∧ layer < 64) (hx : 0 ≤ x ∧ x ≤ 800) (hy : 0 ≤ y ∧ y ≤ 800) (hs : 4 ≤ sz ∧ sz ≤ 100) (hi : 0 ≤ i * pt ∧ i * pt ≤ 200 - sz) (hj : 0 ≤ j * pt ∧ j * pt ≤ 200 - sz) : okQ (pce layer (x + i * pt) (y + j * pt) sz) := by
  unfold okQ pce
  simp only
  omega
theorem sd_bd {sz pt sd i : Int} (hs : 4 ≤ sz ∧ sz ≤ 100) (hp : 4 ≤ pt) (e : sd = min 50 ((200 - sz) / pt + 1)) (hi : 0 ≤ i ∧ i < sd) : 0 ≤ i * pt ∧ i * pt ≤ 200 - sz :=
  ⟨Int.mul_nonneg hi.1 (by omega), (fl_hi (by omega)).mp (by omega)⟩
