/-! the model's marks and counts -/
def mkM (f g : Int → Int64) (x0 y0 x1 y1 : Int) : Prop := ∀ x y, 0 ≤ x → x < 1024 → 0 ≤ y → y < 1000 → mk g x y = (mk f x y || decide (x0 ≤ x ∧ x < x1 ∧ y0 ≤ y ∧ y < y1 ∧ x < 1000))
theorem mkM_of {f g : Int → Int64} {x0 y0 x1 y1 a e t y b : Int} (h : mkr f g a e t y (a / 64)) (ha : a = min 1000 (max 0 x0)) (he : e = min 1000 (max 0 x1)) (ht : t = min 1000 (max 0 y0)) (hb : b = min 1000 (max 0 y1)) (hy : b ≤ y ∧ y ≤ max t b) : mkM f g x0 y0 x1 y1 := fun x v a1 a2 a3 a4 => by
  rw [mkr_end h x v a1 a2 a3 a4]
  congr 1
  exact decide_eq_decide.mpr (by omega)
def mk0 (f : Int → Int64) : Prop := ∀ k, 0 ≤ k → k < 16000 → f k = jL 0
theorem mk0_f {f : Int → Int64} (h : mk0 f) {x y : Int} (hx : 0 ≤ x ∧ x < 1024) (hy : 0 ≤ y ∧ y < 1000) : mk f x y = false := by
  unfold mk
  rw [h _ (by omega) (by omega), wb_0]
/-- one word's part of a row's count -/
theorem pc_row {f : Int → Int64} {m : Int64} {x0 x1 y w k : Int} (hk : k = 16 * y + w) (hm : ∀ b : Nat, b < 64 → wb m b = decide (x0 ≤ 64 * w + (b : Int) ∧ 64 * w + (b : Int) < x1)) : pcW (f k &&& m) = cn (fun x => mk f x y && decide (x0 ≤ x ∧ x < x1)) (64 * w) (64 * w + 64) := by
  have e := cn_sh (fun x => mk f x y && decide (x0 ≤ x ∧ x < x1)) (64 * w) 0 64
  rw [Int.zero_add, Int.add_comm 64 (64 * w)] at e
  rw [← e]
  refine cn_cg fun b h1 h2 => ?_
  show wb (f k &&& m) b.toNat = (mk f (b + 64 * w) y && decide (x0 ≤ b + 64 * w ∧ b + 64 * w < x1))
  rw [wb_and, hm b.toNat (by omega)]
  unfold mk
  rw [show 16 * y + (b + 64 * w) / 64 = k by omega, show ((b + 64 * w) % 64).toNat = b.toNat by omega]
  congr 1
  exact decide_eq_decide.mpr (by omega)
def rwP (f : Int → Int64) (x0 x1 y : Int) : Int → Bool := fun x => mk f x y && decide (x0 ≤ x ∧ x < x1)
theorem rwP_e {f : Int → Int64} {x0 x1 y w : Int} (h0 : 0 ≤ x0) (h : x0 ≤ x1) (hw : x1 ≤ 64 * w) : cn (rwP f x0 x1 y) (64 * (x0 / 64)) (64 * w) = cn (fun x => mk f x y) x0 x1 := by
  rw [cn_in (P := rwP f x0 x1 y) (c := x0) (d := x1) (by omega) h hw (fun x _ _ p => by
    unfold rwP at p
    rw [Bool.and_eq_true, decide_eq_true_eq] at p
    exact p.2)]
  refine cn_cg fun x a b => ?_
  unfold rwP
  rw [dec_t ⟨a, b⟩, Bool.and_true]
/-! the model's rows of shapes, diodes, pieces -/
def mkE (f : Int → Int64) (C : Int → Int → Bool) : Prop := ∀ x y, 0 ≤ x → x < 1024 → 0 ≤ y → y < 1000 → mk f x y = C x y
theorem mkE_0 {f : Int → Int64} (h : mk0 f) : mkE f (covL []) := fun x y a b c d => mk0_f h ⟨a, b⟩ ⟨c, d⟩
theorem mkE_s {f g : Int → Int64} {R : List jQ} {q : jQ} {x0 y0 x1 y1 : Int} (h : mkE f (covL R)) (hm : mkM f g x0 y0 x1 y1) (hq : okQ q) (e0 : x0 = q.2.2.1) (e1 : y0 = q.2.2.2.1) (e2 : x1 = q.2.2.2.2.1) (e3 : y1 = q.2.2.2.2.2) : mkE g (covL (R ++ [q])) := fun x y a b c d => by
  unfold okQ at hq
  rw [hm x y a b c d, h x y a b c d, covL_app, covL_one]
  congr 1
  unfold inQ
  exact decide_eq_decide.mpr (by omega)
theorem mkE_cm {f : Int → Int64} {C : Int → Int → Bool} (h : mkE f C) {a b c d : Int} (h1 : 0 ≤ a) (h2 : b ≤ 1000) (h3 : 0 ≤ c) (h4 : d ≤ 1000) : cm (mk f) a b c d = cm C a b c d := cm_cg fun x y p q r t => h x y (by omega) (by omega) (by omega) (by omega)
def msI (sn sl bo : Int → Int) (ns : Int) (L : List jQ) : Prop := ns = (L.length : Int) ∧ ∀ (k : Nat) (q : jQ), L[k]? = some q → sn k = q.1 ∧ sl k = q.2.1 ∧ bo (4 * (k : Int)) = q.2.2.1 ∧ bo (4 * (k : Int) + 1) = q.2.2.2.1 ∧ bo (4 * (k : Int) + 2) = q.2.2.2.2.1 ∧ bo (4 * (k : Int) + 3) = q.2.2.2.2.2 ∧ okQ q
theorem ms_at {sn sl bo : Int → Int} {ns k : Int} {L : List jQ} (h : msI sn sl bo ns L) (hk : 0 ≤ k ∧ k < ns) : ∃ q : jQ, L[k.toNat]? = some q ∧ sn k = q.1 ∧ sl k = q.2.1 ∧ bo (4 * k) = q.2.2.1 ∧ bo (4 * k + 1) = q.2.2.2.1 ∧ bo (4 * k + 2) = q.2.2.2.2.1 ∧ bo (4 * k + 3) = q.2.2.2.2.2 ∧ okQ q := by
  obtain ⟨h1, h2⟩ := h
  have hl : k.toNat < L.length := by omega
  have hq : L[k.toNat]? = some L[k.toNat] := List.getElem?_eq_getElem hl
  have e := h2 _ _ hq
  rw [show ((k.toNat : Nat) : Int) = k by omega] at e
  exact ⟨_, hq, e⟩
def mdI (qn qs qx qy : Int → Int) (np : Int) (DD : List jD) : Prop := np = (DD.length : Int) ∧ ∀ (k : Nat) (d : jD), DD[k]? = some d → qn k = d.1.1 ∧ qs k = d.2 ∧ qx k = d.1.2.2.1 ∧ qy k = d.1.2.2.2.1 ∧ d.1.2.1 = 0 ∧ d.1.2.2.2.2.1 = d.1.2.2.1 + 4 ∧ d.1.2.2.2.2.2 = d.1.2.2.2.1 + 4 ∧ okQ d.1
theorem md_at {qn qs qx qy : Int → Int} {np k : Int} {DD : List jD} (h : mdI qn qs qx qy np DD) (hk : 0 ≤ k ∧ k < np) : ∃ d : jD, DD[k.toNat]? = some d ∧ qn k = d.1.1 ∧ qs k = d.2 ∧ qx k = d.1.2.2.1 ∧ qy k = d.1.2.2.2.1 ∧ d.1.2.1 = 0 ∧ d.1.2.2.2.2.1 = d.1.2.2.1 + 4 ∧ d.1.2.2.2.2.2 = d.1.2.2.2.1 + 4 ∧ okQ d.1 := by
  obtain ⟨h1, h2⟩ := h
  have hl : k.toNat < DD.length := by omega
  have hq : DD[k.toNat]? = some DD[k.toNat] := List.getElem?_eq_getElem hl
  have e := h2 _ _ hq
  rw [show ((k.toNat : Nat) : Int) = k by omega] at e
  exact ⟨_, hq, e⟩
def mpI (rl rx ry rs : Int → Int) (nq : Int) (LP : List jQ) : Prop := nq = (LP.length : Int) ∧ ∀ (k : Nat) (q : jQ), LP[k]? = some q → rl k = q.2.1 ∧ rx k = q.2.2.1 ∧ ry k = q.2.2.2.1 ∧ q.2.2.2.2.1 = q.2.2.1 + rs k ∧ q.2.2.2.2.2 = q.2.2.2.1 + rs k ∧ okQ q
theorem mp_at {rl rx ry rs : Int → Int} {nq k : Int} {LP : List jQ} (h : mpI rl rx ry rs nq LP) (hk : 0 ≤ k ∧ k < nq) : ∃ q : jQ, LP[k.toNat]? = some q ∧ rl k = q.2.1 ∧ rx k = q.2.2.1 ∧ ry k = q.2.2.2.1 ∧ q.2.2.2.2.1 = q.2.2.1 + rs k ∧ q.2.2.2.2.2 = q.2.2.2.1 + rs k ∧ okQ q := by
  obtain ⟨h1, h2⟩ := h
  have hl : k.toNat < LP.length := by omega
  have hq : LP[k.toNat]? = some LP[k.toNat] := List.getElem?_eq_getElem hl
  have e := h2 _ _ hq
  rw [show ((k.toNat : Nat) : Int) = k by omega] at e
  exact ⟨_, hq, e⟩
/-- a prefix of the diodes, as rectangles -/
theorem pre_map {α β : Type} (f : α → β) (L : List α) (i : Int) : (pre L i).map f = pre (L.map f) i := by unfold pre; rw [List.map_take]
theorem map_get {α β : Type} (f : α → β) {L : List α} {k : Nat} {d : α} (h : L[k]? = some d) : (L.map f)[k]? = some (f d) := by rw [List.getElem?_map, h]; rfl
