/-! the abstract values: areas, guards, places, the repair -/
abbrev jD : Type := jQ × Int
def bars (L M P : List jQ) : List jQ := L.filter (onL 0) ++ M.filter (onL 0) ++ P.filter (onL 0)
theorem stI_c {f : Int → Int64} {B C : List jQ} (h : stI f B) (e : ∀ x y, brd B x y = brd C x y) : stI f C := fun x y a b c d => by rw [h x y a b c d, e]
theorem bars_s (L M P : List jQ) {q : jQ} (hq : q.2.1 = 0) (x y : Int) : brd (bars L M P ++ [q]) x y = brd (bars L (M ++ [q]) P) x y := by
  unfold bars
  rw [List.filter_append, List.filter_cons_of_pos (onL_t hq), List.filter_nil]
  rw [brd_app, brd_app, brd_app, brd_app, brd_app, brd_app]
  cases brd (L.filter (onL 0)) x y <;> cases brd (M.filter (onL 0)) x y <;> cases brd (P.filter (onL 0)) x y <;> cases brd [q] x y <;> rfl
theorem isN_bd {BL : List jQ} {q : jQ} {x y : Int} (h : isN BL q x y) : 2 ≤ x ∧ x ≤ 994 ∧ 2 ≤ y ∧ y ≤ 994 := h.1
/-! the first place of a search -/
def fndN (P : Int → Bool) : Nat → Int
  | 0 => -1
  | n + 1 => if fndN P n = -1 then (if P n then n else -1) else fndN P n
theorem fndN_no {P : Int → Bool} : ∀ {n : Nat}, (∀ k : Nat, k < n → P k = false) → fndN P n = -1
  | 0, _ => rfl
  | n + 1, h => by
    show (if fndN P n = -1 then (if P n then (n : Int) else -1) else fndN P n) = -1
    rw [if_pos (fndN_no fun k hk => h k (by omega)), h n (by omega)]
    rfl
theorem fndN_at {P : Int → Bool} {z : Nat} (hz : P z = true) (hm : ∀ k : Nat, k < z → P k = false) : ∀ {n : Nat}, z < n → fndN P n = z
  | 0, h => by omega
  | n + 1, h => by
    show (if fndN P n = -1 then (if P n then (n : Int) else -1) else fndN P n) = z
    rcases Nat.lt_or_ge z n with q | q
    · have := fndN_at hz hm q
      rw [this, if_neg (by omega)]
    · have e : z = n := by omega
      subst e
      rw [if_pos (fndN_no hm), hz]
      rfl
def nrb (L : List jQ) (B : Int → Int → Bool) (net z : Int) : Bool := decide (2 ≤ z % 1000 ∧ z % 1000 ≤ 994 ∧ 2 ≤ z / 1000 ∧ z / 1000 ≤ 994) && (L.any (fun q => decide (q.1 = net ∧ q.2.2.1 - 23 ≤ z % 1000 ∧ z % 1000 ≤ q.2.2.2.2.1 + 19 ∧ q.2.2.2.1 - 23 ≤ z / 1000 ∧ z / 1000 ≤ q.2.2.2.2.2 + 19)) && !B (z % 1000) (z / 1000))
def fplz (L : List jQ) (B : Int → Int → Bool) (net : Int) : Int := fndN (nrb L B net) 1000000
def nrP (L BL : List jQ) (net x y : Int) : Prop := ∃ q ∈ L, q.1 = net ∧ isN BL q x y
theorem nrb_iff {L BL : List jQ} {net x y z : Int} (hz : z = y * 1000 + x) (hx : 0 ≤ x ∧ x < 1000) : nrb L (brd BL) net z = true ↔ nrP L BL net x y := by
  have e1 : z % 1000 = x := by omega
  have e2 : z / 1000 = y := by omega
  unfold nrb nrP isN
  rw [e1, e2, Bool.and_eq_true, Bool.and_eq_true, decide_eq_true_eq, Bool.not_eq_true', List.any_eq_true]
  constructor
  · rintro ⟨h1, ⟨q, hq, h2⟩, h3⟩
    have h2 := decide_eq_true_iff.mp h2
    exact ⟨q, hq, h2.1, h1, h2.2, h3⟩
  · rintro ⟨q, hq, h2, h1, h3, h4⟩
    exact ⟨h1, ⟨q, hq, decide_eq_true ⟨h2, h3⟩⟩, h4⟩
theorem fpl_eq {L BL : List jQ} {net z : Int} (h : fstP (nrP L BL net) z) : z = fplz L (brd BL) net := by
  unfold fplz
  rcases h with ⟨rfl, h⟩ | ⟨x, y, rfl, h, hm⟩
  · refine (fndN_no fun k _ => ?_).symm
    cases c : nrb L (brd BL) net k
    · rfl
    · have := (nrb_iff (x := (k : Int) % 1000) (y := (k : Int) / 1000) (by omega) (by omega)).mp c
      exact absurd this (h _ _)
  · obtain ⟨q, hq, hn, hi⟩ := h
    have hb := isN_bd hi
    have e : ((y * 1000 + x).toNat : Int) = y * 1000 + x := by omega
    have := fndN_at (P := nrb L (brd BL) net) (z := (y * 1000 + x).toNat) (by rw [e]; exact (nrb_iff rfl (by omega)).mpr ⟨q, hq, hn, hi⟩) (fun k hk => by
      cases c : nrb L (brd BL) net k
      · rfl
      · have h1 := (nrb_iff (x := (k : Int) % 1000) (y := (k : Int) / 1000) (by omega) (by omega)).mp c
        have := hm _ _ h1
        omega) (n := 1000000) (by omega)
    rw [this, e]
theorem fstP_c {N M : Int → Int → Prop} {z : Int} (h : fstP N z) (e : ∀ x y, N x y ↔ M x y) : fstP M z := by
  rcases h with ⟨r, h⟩ | ⟨x, y, r, h, hm⟩
  · exact Or.inl ⟨r, fun x y q => h x y ((e x y).mpr q)⟩
  · exact Or.inr ⟨x, y, r, (e x y).mp h, fun x2 y2 q => hm x2 y2 ((e x2 y2).mpr q)⟩
theorem fstP_bd {N : Int → Int → Prop} {z : Int} (h : fstP N z) (b : ∀ x y, N x y → 2 ≤ x ∧ x ≤ 994 ∧ 2 ≤ y ∧ y ≤ 994) : z = -1 ∨ 2002 ≤ z ∧ z ≤ 994994 ∧ 2 ≤ z % 1000 ∧ z % 1000 ≤ 994 ∧ 2 ≤ z / 1000 ∧ z / 1000 ≤ 994 := by
  rcases h with ⟨r, h⟩ | ⟨x, y, r, h, hm⟩
  · exact Or.inl r
  · have := b x y h
    omega
/-- two searches put together -/
theorem fstP_a {N M : Int → Int → Prop} {a b : Int} (h : fstP N a) (h2 : fstP M b) (b1 : ∀ x y, N x y → 2 ≤ x ∧ x ≤ 994 ∧ 2 ≤ y ∧ y ≤ 994) (b2 : ∀ x y, M x y → 2 ≤ x ∧ x ≤ 994 ∧ 2 ≤ y ∧ y ≤ 994) (c : b = -1 ∨ (a ≠ -1 ∧ a ≤ b)) : fstP (fun x y => N x y ∨ M x y) a := by
  rcases h with ⟨r, h⟩ | ⟨x, y, r, h, hm⟩
  · rcases h2 with ⟨r2, h2⟩ | ⟨x2, y2, r2, h2, hm2⟩
    · exact Or.inl ⟨r, fun x y q => q.elim (h x y) (h2 x y)⟩
    · have := b2 x2 y2 h2
      omega
  · refine Or.inr ⟨x, y, r, Or.inl h, fun x3 y3 q => ?_⟩
    rcases q with q | q
    · exact hm x3 y3 q
    · rcases h2 with ⟨r2, h2⟩ | ⟨x2, y2, r2, h2, hm2⟩
      · exact absurd q (h2 x3 y3)
      · have b3 := b2 x2 y2 h2
        have b4 := hm2 x3 y3 q
        omega
theorem fstP_b {N M : Int → Int → Prop} {a b : Int} (h : fstP N a) (h2 : fstP M b) (b1 : ∀ x y, N x y → 2 ≤ x ∧ x ≤ 994 ∧ 2 ≤ y ∧ y ≤ 994) (b2 : ∀ x y, M x y → 2 ≤ x ∧ x ≤ 994 ∧ 2 ≤ y ∧ y ≤ 994) (c : b ≠ -1 ∧ (a = -1 ∨ b < a)) : fstP (fun x y => N x y ∨ M x y) b := by
  have := fstP_a h2 h b2 b1 (by omega)
  exact fstP_c this fun x y => Or.comm
/-! sums over lists -/
def lsum {α : Type} (f : α → Int) : List α → Int
  | [] => 0
  | a :: l => f a + lsum f l
theorem lsum_app {α : Type} (f : α → Int) : ∀ L M : List α, lsum f (L ++ M) = lsum f L + lsum f M
  | [], M => by show lsum f M = 0 + lsum f M; omega
  | a :: L, M => by
    show f a + lsum f (L ++ M) = f a + lsum f L + lsum f M
    rw [lsum_app f L M]
    omega
theorem lsum_one {α : Type} (f : α → Int) (a : α) : lsum f [a] = f a := by show f a + 0 = f a; omega
theorem lsum_bd {α : Type} {f : α → Int} {B : Int} : ∀ {L : List α}, (∀ a ∈ L, 0 ≤ f a ∧ f a ≤ B) → 0 ≤ lsum f L ∧ lsum f L ≤ B * L.length
  | [], _ => by show (0 : Int) ≤ 0 ∧ (0 : Int) ≤ B * ((0 : Nat) : Int); simp
  | a :: L, h => by
    have h1 := lsum_bd (L := L) (fun b hb => h b (List.mem_cons_of_mem _ hb))
    have h2 := h a List.mem_cons_self
    have e : B * ((a :: L).length : Int) = B * L.length + B := by rw [List.length_cons, Int.natCast_add]; show B * ((L.length : Int) + 1) = _; rw [Int.mul_add, Int.mul_one]
    rw [e]
    show 0 ≤ f a + lsum f L ∧ f a + lsum f L ≤ _
    omega
theorem su_tr {f g : Int → Int} {a b : Int} : ∀ {n : Nat}, (∀ k : Nat, k < n → f (a + k) = g (b + k)) → su f a n = su g b n
  | 0, _ => rfl
  | n + 1, h => by
    show su f a n + f (a + n) = su g b n + g (b + n)
    rw [su_tr (fun k hk => h k (by omega)), h n (by omega)]
/-! areas of nets, guards, limits -/
def ar (L : List jQ) (net layer : Int) : Int := cm (covL (L.filter (onNL layer net))) 0 1000 0 1000
theorem ar_bd (L : List jQ) (net layer : Int) : 0 ≤ ar L net layer ∧ ar L net layer ≤ 1000000 := cm_bd (by omega) (by omega)
def tdX (TD : List (Int × Int × Int)) (net layer : Int) : Int := lsum (fun d => if d.1 = net ∧ d.2.1 = layer then d.2.2 else 0) TD
def plX (DD : List jD) (net layer : Int) : Int := lsum (fun d => if d.1.1 = net ∧ d.2 = layer then 1 else 0) DD
def dX (TD : List (Int × Int × Int)) (DD : List jD) (net layer : Int) : Int := tdX TD net layer + 16 * plX DD net layer
def gdA (ga : Int → Int) (TD : List (Int × Int × Int)) (DD : List jD) (net layer : Int) : Int := ga net + 8 * sm (fun l => dX TD DD net l) 0 (layer + 1)
def anT (L : List jQ) (net layer : Int) : Int := sm (fun l => ar L net l) 0 (layer + 1)
def ovA (ga la lb : Int → Int) (L : List jQ) (TD : List (Int × Int × Int)) (DD : List jD) (net layer : Int) : Bool := decide (0 < ga net ∧ 0 < lb layer ∧ la layer * gdA ga TD DD net layer < anT L net layer * lb layer)
def saI (sa : Int → Int) (ly : Int) (L : List jQ) : Prop := ∀ net l, 0 ≤ net → net < 40 → 0 ≤ l → l < ly → sa (net * ly + l) = ar L net l
def daI (da : Int → Int) (ly : Int) (TD : List (Int × Int × Int)) (DD : List jD) : Prop := ∀ net l, 0 ≤ net → net < 40 → 0 ≤ l → l < ly → da (net * ly + l) = dX TD DD net l
theorem an_eq {sa : Int → Int} {ly net layer : Int} {L : List jQ} (h : saI sa ly L) (hn : 0 ≤ net ∧ net < 40) (hl : 0 ≤ layer ∧ layer < ly) : su sa (net * ly) (layer + 1).toNat = anT L net layer := by
  unfold anT sm
  rw [Int.sub_zero]
  refine su_tr fun k hk => ?_
  rw [h net k hn.1 hn.2 (by omega) (by omega), Int.zero_add]
theorem gd_eq {ga da : Int → Int} {ly net layer : Int} {TD : List (Int × Int × Int)} {DD : List jD} (h : daI da ly TD DD) (hn : 0 ≤ net ∧ net < 40) (hl : 0 ≤ layer ∧ layer < ly) : gua ga da ly net layer = gdA ga TD DD net layer := by
  unfold gua gdA sm
  rw [Int.sub_zero]
  congr 2
  refine su_tr fun k hk => ?_
  rw [h net k hn.1 hn.2 (by omega) (by omega), Int.zero_add]
theorem over_iff {ga da sa la lb : Int → Int} {ly net layer : Int} {L : List jQ} {TD : List (Int × Int × Int)} {DD : List jD} (hs : saI sa ly L) (hd : daI da ly TD DD) (hn : 0 ≤ net ∧ net < 40) (hl : 0 ≤ layer ∧ layer < ly) : over ga da sa la lb ly net layer ↔ ovA ga la lb L TD DD net layer = true := by
  unfold over ovA
  rw [an_eq hs hn hl, gd_eq hd hn hl, decide_eq_true_eq]
theorem idx_inj {n n2 l l2 ly : Int} (hl : 0 ≤ l ∧ l < ly) (hl2 : 0 ≤ l2 ∧ l2 < ly) (h : n * ly + l = n2 * ly + l2) : n = n2 ∧ l = l2 := by
  rcases Int.lt_trichotomy n n2 with q | q | q
  · have := Int.mul_le_mul_of_nonneg_right (a := n + 1) (b := n2) (c := ly) (by omega) (by omega)
    rw [Int.add_mul, Int.one_mul] at this
    omega
  · subst q
    exact ⟨rfl, by omega⟩
  · have := Int.mul_le_mul_of_nonneg_right (a := n2 + 1) (b := n) (c := ly) (by omega) (by omega)
    rw [Int.add_mul, Int.one_mul] at this
    omega
theorem daI_p {da : Int → Int} {ly net layer : Int} {TD : List (Int × Int × Int)} {DD : List jD} {q : jQ} (h : daI da ly TD DD) (hq : q.1 = net) (hl : 0 ≤ layer ∧ layer < ly) : daI (upI da (net * ly + layer) (da (net * ly + layer) + 16)) ly TD (DD ++ [(q, layer)]) := fun n l a b c d => by
  have e : dX TD (DD ++ [(q, layer)]) n l = dX TD DD n l + 16 * (if net = n ∧ layer = l then 1 else 0) := by
    unfold dX plX
    rw [lsum_app, lsum_one]
    show _ + 16 * (_ + if q.1 = n ∧ layer = l then 1 else 0) = _
    rw [hq]
    omega
  rw [e]
  by_cases r : n = net ∧ l = layer
  · obtain ⟨rfl, rfl⟩ := r
    rw [upI_eq, h n l a b c d, if_pos ⟨rfl, rfl⟩]
    omega
  · rw [upI_ne _ _ (fun t => r (idx_inj ⟨c, d⟩ hl t)), h n l a b c d, if_neg (fun t => r ⟨t.1.symm, t.2.symm⟩)]
    omega
theorem daI_t {da : Int → Int} {ly net layer v : Int} {TD : List (Int × Int × Int)} {DD : List jD} (h : daI da ly TD DD) (hl : 0 ≤ layer ∧ layer < ly) : daI (upI da (net * ly + layer) (da (net * ly + layer) + v)) ly (TD ++ [(net, layer, v)]) DD := fun n l a b c d => by
  have e : dX (TD ++ [(net, layer, v)]) DD n l = dX TD DD n l + (if net = n ∧ layer = l then v else 0) := by
    unfold dX tdX
    rw [lsum_app, lsum_one]
    show (_ + if net = n ∧ layer = l then v else 0) + _ = _
    omega
  rw [e]
  by_cases r : n = net ∧ l = layer
  · obtain ⟨rfl, rfl⟩ := r
    rw [upI_eq, h n l a b c d, if_pos ⟨rfl, rfl⟩]
  · rw [upI_ne _ _ (fun t => r (idx_inj ⟨c, d⟩ hl t)), h n l a b c d, if_neg (fun t => r ⟨t.1.symm, t.2.symm⟩)]
    omega
/-! the repair -/
def pfA (L P : List jQ) (DD : List jD) (net : Int) : Int := fplz L (brd (bars L (DD.map fun d => d.1) P)) net
def dio (net layer z : Int) : jD := ((net, 0, z % 1000, z / 1000, z % 1000 + 4, z / 1000 + 4), layer)
def plc (pf : List jD → Int → Int) (DD : List jD) (net layer : Int) : List jD := if 60 ≤ DD.length then DD else if pf DD net = -1 then DD else DD ++ [dio net layer (pf DD net)]
def lay (ov : List jD → Int → Int → Bool) (pf : List jD → Int → Int) (net layer : Int) : Nat → List jD → List jD
  | 0, DD => DD
  | n + 1, DD => if ov DD net layer then (if (plc pf DD net layer).length = DD.length then DD else lay ov pf net layer n (plc pf DD net layer)) else DD
def rly (ov : List jD → Int → Int → Bool) (pf : List jD → Int → Int) (net : Int) : Nat → List jD → List jD
  | 0, DD => DD
  | n + 1, DD => lay ov pf net n 61 (rly ov pf net n DD)
def rnt (ov : List jD → Int → Int → Bool) (pf : List jD → Int → Int) (ly : Int) : Nat → List jD → List jD
  | 0, DD => DD
  | n + 1, DD => rly ov pf n ly.toNat (rnt ov pf ly n DD)
def stuck (pf : List jD → Int → Int) (DD : List jD) (net : Int) : Prop := 60 ≤ DD.length ∨ pf DD net = -1
theorem plc_stuck {pf : List jD → Int → Int} {DD : List jD} {net : Int} (h : stuck pf DD net) (layer : Int) : plc pf DD net layer = DD := by
  unfold plc
  rcases h with h | h
  · rw [if_pos h]
  · rw [if_pos h]; split <;> rfl
theorem plc_go {pf : List jD → Int → Int} {DD : List jD} {net layer : Int} (h1 : ¬ 60 ≤ DD.length) (h2 : pf DD net ≠ -1) : plc pf DD net layer = DD ++ [dio net layer (pf DD net)] := by
  unfold plc
  rw [if_neg h1, if_neg h2]
theorem lay_stuck {ov : List jD → Int → Int → Bool} {pf : List jD → Int → Int} {DD : List jD} {net layer : Int} (h : stuck pf DD net) (n : Nat) : lay ov pf net layer n DD = DD := by
  cases n with
  | zero => rfl
  | succ n =>
    show (if ov DD net layer then (if (plc pf DD net layer).length = DD.length then DD else lay ov pf net layer n (plc pf DD net layer)) else DD) = DD
    rw [plc_stuck h, if_pos rfl]
    split <;> rfl
theorem lay_no {ov : List jD → Int → Int → Bool} {pf : List jD → Int → Int} {DD : List jD} {net layer : Int} (h : ov DD net layer = false) (n : Nat) : lay ov pf net layer n DD = DD := by
  cases n with
  | zero => rfl
  | succ n =>
    show (if ov DD net layer then (if (plc pf DD net layer).length = DD.length then DD else lay ov pf net layer n (plc pf DD net layer)) else DD) = DD
    rw [h]
    rfl
theorem lay_go {ov : List jD → Int → Int → Bool} {pf : List jD → Int → Int} {DD : List jD} {net layer : Int} (h : ov DD net layer = true) (h2 : ¬ stuck pf DD net) (n : Nat) : lay ov pf net layer (n + 1) DD = lay ov pf net layer n (DD ++ [dio net layer (pf DD net)]) := by
  have e := plc_go (layer := layer) (fun q => h2 (Or.inl q)) (fun q => h2 (Or.inr q))
  show (if ov DD net layer then (if (plc pf DD net layer).length = DD.length then DD else lay ov pf net layer n (plc pf DD net layer)) else DD) = _
  rw [h, e, if_pos rfl, if_neg (by rw [List.length_append]; simp)]
theorem rly_stuck {ov : List jD → Int → Int → Bool} {pf : List jD → Int → Int} {DD E : List jD} {net : Int} {k : Nat} (h : rly ov pf net k DD = E) (hs : stuck pf E net) : ∀ j : Nat, rly ov pf net (k + j) DD = E
  | 0 => h
  | j + 1 => by
    show lay ov pf net (k + j : Nat) 61 (rly ov pf net (k + j) DD) = E
    rw [rly_stuck h hs j]
    exact lay_stuck hs 61
/-- the placed diodes as the class keeps them -/
def dI (dn dl dx dy du dv : Int → Int) (dz : Int) (ds da : Int → Int) (f : Int → Int64) (ly td : Int) (L P : List jQ) (TD : List (Int × Int × Int)) (DD : List jD) : Prop :=
  bx dn dl dx dy du dv dz (DD.map fun d => d.1) ∧ (dz = (DD.length : Int) ∧ dz ≤ 60) ∧ (∀ (k : Nat) (d : jD), DD[k]? = some d → ds k = d.2) ∧ daI da ly TD DD ∧ (∀ d ∈ DD, d.1.2.1 = 0 ∧ 0 ≤ d.2 ∧ d.2 < ly) ∧ (∀ k, 0 ≤ da k ∧ da k ≤ 1000000 * td + 16 * dz) ∧ stI f (bars L (DD.map fun d => d.1) P)
theorem dI_s {dn dl dx dy du dv ds da : Int → Int} {dz ly td net layer z x y : Int} {f g : Int → Int64} {L P : List jQ} {TD : List (Int × Int × Int)} {DD : List jD} (h : dI dn dl dx dy du dv dz ds da f ly td L P TD DD) (hz : dz < 60) (hn : 0 ≤ net ∧ net < 40) (hl : 0 ≤ layer ∧ layer < ly) (hxy : x = z % 1000 ∧ y = z / 1000 ∧ 0 ≤ x ∧ x ≤ 994 ∧ 0 ≤ y ∧ y ≤ 994) (hg : stI g (bars L (DD.map fun d => d.1) P ++ [(dio net layer z).1])) :
    dI (upI dn dz net) (upI dl dz 0) (upI dx dz x) (upI dy dz y) (upI du dz (x + 4)) (upI dv dz (y + 4)) (dz + 1) (upI ds dz layer) (upI da (net * ly + layer) (da (net * ly + layer) + 16)) g ly td L P TD (DD ++ [dio net layer z]) := by
  obtain ⟨h1, h2, h3, h4, h5, h6, h7⟩ := h
  refine ⟨?_, ⟨by rw [List.length_append]; simp; omega, by omega⟩, ?_, daI_p h4 rfl hl, ?_, ?_, ?_⟩
  · rw [List.map_append]
    refine bx_push h1 (q := (dio net layer z).1) ?_ rfl rfl hxy.1 hxy.2.1 (by show x + 4 = z % 1000 + 4; omega) (by show y + 4 = z / 1000 + 4; omega)
    unfold okQ dio
    simp only
    omega
  · intro k d hk
    rcases Nat.lt_or_ge k DD.length with c | c
    · rw [List.getElem?_append_left c] at hk
      rw [upI_ne _ _ (by omega)]
      exact h3 k d hk
    · rw [List.getElem?_append_right c] at hk
      have hz0 : k - DD.length = 0 := by
        have := (List.getElem?_eq_some_iff.mp hk).1
        simp at this
        omega
      rw [hz0] at hk
      cases hk
      rw [show (k : Int) = dz by omega, upI_eq]
      rfl
  · intro d hd
    rcases List.mem_append.mp hd with c | c
    · exact h5 d c
    · rw [List.mem_singleton.mp c]
      exact ⟨rfl, hl⟩
  · intro k
    have b1 := h6 k
    have b2 := h6 (net * ly + layer)
    by_cases c : k = net * ly + layer
    · rw [c, upI_eq]; omega
    · rw [upI_ne _ _ c]; omega
  · rw [List.map_append]
    exact stI_c hg fun u v => bars_s L _ P rfl u v
theorem pfA_of {L P : List jQ} {DD : List jD} {net z : Int} (h : fstP (nrP L (bars L (DD.map fun d => d.1) P) net) z) : pfA L P DD net = z := (fpl_eq h).symm
theorem nrP_bd (L BL : List jQ) (net : Int) : ∀ x y, nrP L BL net x y → 2 ≤ x ∧ x ≤ 994 ∧ 2 ≤ y ∧ y ≤ 994 := fun _ _ ⟨_, _, _, h⟩ => isN_bd h
theorem nrP_n {L BL : List jQ} {net i : Int} {q : jQ} (h : 0 ≤ i) (hq : L[i.toNat]? = some q) (hn : q.1 ≠ net) : ∀ x y, nrP (pre L i) BL net x y ↔ nrP (pre L (i + 1)) BL net x y := fun x y => by
  rw [pre_s h hq]
  unfold nrP
  constructor
  · rintro ⟨p, hp, r⟩
    exact ⟨p, List.mem_append_left _ hp, r⟩
  · rintro ⟨p, hp, r⟩
    rcases List.mem_append.mp hp with c | c
    · exact ⟨p, c, r⟩
    · rw [List.mem_singleton.mp c] at r
      exact absurd r.1 hn
theorem nrP_s {L BL : List jQ} {net i : Int} {q : jQ} (h : 0 ≤ i) (hq : L[i.toNat]? = some q) (hn : q.1 = net) : ∀ x y, (nrP (pre L i) BL net x y ∨ isN BL q x y) ↔ nrP (pre L (i + 1)) BL net x y := fun x y => by
  rw [pre_s h hq]
  unfold nrP
  constructor
  · rintro (⟨p, hp, r⟩ | r)
    · exact ⟨p, List.mem_append_left _ hp, r⟩
    · exact ⟨q, List.mem_append_right _ (List.mem_singleton.mpr rfl), hn, r⟩
  · rintro ⟨p, hp, r⟩
    rcases List.mem_append.mp hp with c | c
    · exact Or.inl ⟨p, c, r⟩
    · rw [List.mem_singleton.mp c] at r
      exact Or.inr r.2
/-- the area that is covered in a window -/
def lcv (L M P : List jQ) (layer : Int) : List jQ := [] ++ L.filter (onNL layer (-1)) ++ M.filter (onNL layer (-1)) ++ P.filter (onNL layer (-1))
def wcn (L M P : List jQ) (layer x y : Int) : Int := cm (covL (lcv L M P layer)) x (x + 200) y (y + 200)
theorem wcn_bd (L M P : List jQ) (layer x y : Int) : 0 ≤ wcn L M P layer x y ∧ wcn L M P layer x y ≤ 40000 := by
  have := cm_bd (P := covL (lcv L M P layer)) (a := x) (b := x + 200) (c := y) (d := y + 200) (by omega) (by omega)
  rw [show x + 200 - x = 200 by omega, show y + 200 - y = 200 by omega] at this
  exact this
theorem lay_nx {ov : List jD → Int → Int → Bool} {pf : List jD → Int → Int} {DE DF : List jD} {net i tr rn z : Int} (hov : ov DF net i = true) (ht : 0 ≤ tr ∧ tr ≤ 61) (hz : (z = 0 ∧ stuck pf DF net) ∨ (z = 1 ∧ ¬ stuck pf DF net)) (hr : (rn = 1 ∧ lay ov pf net i (61 - tr).toNat DF = lay ov pf net i 61 DE) ∨ (rn = 0 ∧ stuck pf DF net ∧ DF = lay ov pf net i 61 DE)) (hrn : rn ≠ 0) (h60 : tr ≤ 60) :
    (z = 1 ∧ lay ov pf net i (61 - (tr + 1)).toNat (plc pf DF net i) = lay ov pf net i 61 DE) ∨ (z = 0 ∧ stuck pf (plc pf DF net i) net ∧ plc pf DF net i = lay ov pf net i 61 DE) := by
  have h1 : lay ov pf net i (61 - tr).toNat DF = lay ov pf net i 61 DE := by
    rcases hr with h | h
    · exact h.2
    · exact absurd h.1 hrn
  rcases hz with ⟨h2, h3⟩ | ⟨h2, h3⟩
  · refine Or.inr ⟨h2, ?_, ?_⟩
    · rw [plc_stuck h3]; exact h3
    · rw [plc_stuck h3, ← h1, lay_stuck h3]
  · refine Or.inl ⟨h2, ?_⟩
    rw [← h1, show (61 - tr).toNat = (61 - (tr + 1)).toNat + 1 by omega, lay_go hov h3, plc_go (fun q => h3 (Or.inl q)) (fun q => h3 (Or.inr q))]
theorem lay_e0 {ov : List jD → Int → Int → Bool} {pf : List jD → Int → Int} {DE DF : List jD} {net i tr rn : Int} (hov : ov DF net i = false) (hr : (rn = 1 ∧ lay ov pf net i (61 - tr).toNat DF = lay ov pf net i 61 DE) ∨ (rn = 0 ∧ stuck pf DF net ∧ DF = lay ov pf net i 61 DE)) (hrn : rn ≠ 0) : (rn = 1 ∨ (rn = 0 ∧ stuck pf DF net)) ∧ DF = lay ov pf net i 61 DE := by
  rcases hr with h | h
  · rw [lay_no hov] at h
    exact ⟨Or.inl h.1, h.2⟩
  · exact absurd h.1 hrn
theorem lay_e1 {ov : List jD → Int → Int → Bool} {pf : List jD → Int → Int} {DE DF : List jD} {net i tr rn : Int} (hr : (rn = 1 ∧ lay ov pf net i (61 - tr).toNat DF = lay ov pf net i 61 DE) ∨ (rn = 0 ∧ stuck pf DF net ∧ DF = lay ov pf net i 61 DE)) (hrn : rn = 0) : (rn = 1 ∨ (rn = 0 ∧ stuck pf DF net)) ∧ DF = lay ov pf net i 61 DE := by
  rcases hr with h | h
  · omega
  · exact ⟨Or.inr ⟨h.1, h.2.1⟩, h.2.2⟩
theorem rly_nx {ov : List jD → Int → Int → Bool} {pf : List jD → Int → Int} {DD DE DF : List jD} {net i ly rm rn : Int} (hi : 0 ≤ i ∧ i < ly) (hr : (rm = 1 ∧ DE = rly ov pf net i.toNat DD) ∨ (rm = 0 ∧ stuck pf DE net ∧ DE = rly ov pf net ly.toNat DD)) (hrm : rm ≠ 0) (h : (rn = 1 ∨ (rn = 0 ∧ stuck pf DF net)) ∧ DF = lay ov pf net i 61 DE) : (rn = 1 ∧ DF = rly ov pf net (i + 1).toNat DD) ∨ (rn = 0 ∧ stuck pf DF net ∧ DF = rly ov pf net ly.toNat DD) := by
  have h1 : DE = rly ov pf net i.toNat DD := by
    rcases hr with h | h
    · exact h.2
    · exact absurd h.1 hrm
  have h2 : DF = rly ov pf net (i + 1).toNat DD := by
    rw [show (i + 1).toNat = i.toNat + 1 by omega]
    show DF = lay ov pf net (i.toNat : Int) 61 (rly ov pf net i.toNat DD)
    rw [← h1, show ((i.toNat : Nat) : Int) = i by omega]
    exact h.2
  rcases h.1 with h3 | h3
  · exact Or.inl ⟨h3, h2⟩
  · refine Or.inr ⟨h3.1, h3.2, ?_⟩
    have := rly_stuck h2.symm h3.2 (ly.toNat - (i + 1).toNat)
    rw [show (i + 1).toNat + (ly.toNat - (i + 1).toNat) = ly.toNat by omega] at this
    exact this.symm
