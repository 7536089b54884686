/-! the model puts a diode -/
theorem mdI_s {qn qs qx qy : Int → Int} {np net layer z x y : Int} {DD : List jD} (h : mdI qn qs qx qy np DD) (hn : 0 ≤ net ∧ net < 40) (hxy : x = z % 1000 ∧ y = z / 1000 ∧ 0 ≤ x ∧ x ≤ 994 ∧ 0 ≤ y ∧ y ≤ 994) : mdI (upI qn np net) (upI qs np layer) (upI qx np x) (upI qy np y) (np + 1) (DD ++ [dio net layer z]) := by
  obtain ⟨h1, h2⟩ := h
  refine ⟨by rw [List.length_append]; simp; omega, fun k d hk => ?_⟩
  rcases Nat.lt_or_ge k DD.length with c | c
  · rw [List.getElem?_append_left c] at hk
    rw [upI_ne _ _ (by omega), upI_ne _ _ (by omega), upI_ne _ _ (by omega), upI_ne _ _ (by omega)]
    exact h2 k d hk
  · rw [List.getElem?_append_right c] at hk
    have hz0 : k - DD.length = 0 := by
      have := (List.getElem?_eq_some_iff.mp hk).1
      simp at this
      omega
    rw [hz0] at hk
    cases hk
    rw [show (k : Int) = np by omega, upI_eq, upI_eq, upI_eq, upI_eq]
    refine ⟨rfl, rfl, hxy.1, hxy.2.1, rfl, rfl, rfl, ?_⟩
    unfold okQ dio
    simp only
    omega
theorem fst_k {nf bf : Int → Int64} {L BL : List jQ} {net k bit : Int} (hn : mkN nf L net) (hb : mkB bf BL) (hk : 0 ≤ k ∧ k < 16000) (hbit : 0 ≤ bit ∧ bit < 64) (hset : wb (nf k &&& (bf k ^^^ jL (-1))) bit.toNat = true) (hlow : ∀ b : Nat, (b : Int) < bit → wb (nf k &&& (bf k ^^^ jL (-1))) b = false) (hfst : ∀ x y, nrP L BL net x y → k ≤ 16 * y + x / 64) : fstP (nrP L BL net) (k / 16 * 1000 + (64 * (k % 16) + bit)) ∧ 64 * (k % 16) + bit ≤ 994 ∧ k / 16 ≤ 994 := by
  have hN := (frW hn hb hk (b := bit.toNat) (by omega)).mp hset
  rw [show ((bit.toNat : Nat) : Int) = bit by omega] at hN
  have hNb := nrP_bd _ _ _ _ _ hN
  refine ⟨Or.inr ⟨_, _, rfl, hN, fun x2 y2 h => ?_⟩, hNb.2.1, hNb.2.2.2⟩
  have h1 := hfst x2 y2 h
  have h2 := nrP_bd _ _ _ _ _ h
  rcases Int.lt_or_le k (16 * y2 + x2 / 64) with q | q
  · omega
  · have e1 : y2 = k / 16 := by omega
    have e2 : x2 / 64 = k % 16 := by omega
    rcases Int.lt_or_le (x2 % 64) bit with r | r
    · exfalso
      have h3 := hlow (x2 % 64).toNat (by omega)
      have h4 := (frW hn hb hk (b := (x2 % 64).toNat) (by omega)).mpr (by rw [show 64 * (k % 16) + (((x2 % 64).toNat : Nat) : Int) = x2 by omega, ← e1]; exact h)
      rw [h3] at h4
      exact Bool.noConfusion h4
    · omega
theorem fst_n {nf bf : Int → Int64} {L BL : List jQ} {net k : Int} (hn : mkN nf L net) (hb : mkB bf BL) (hk : 0 ≤ k ∧ k < 16000) (hz : nf k &&& (bf k ^^^ jL (-1)) = jL 0) (hfst : ∀ x y, nrP L BL net x y → k ≤ 16 * y + x / 64) : ∀ x y, nrP L BL net x y → k + 1 ≤ 16 * y + x / 64 := fun x y h => by
  have h1 := hfst x y h
  have h2 := nrP_bd _ _ _ _ _ h
  rcases Int.lt_or_le k (16 * y + x / 64) with q | q
  · omega
  · exfalso
    have e1 : y = k / 16 := by omega
    have h4 := (frW hn hb hk (b := (x % 64).toNat) (by omega)).mpr (by rw [show 64 * (k % 16) + (((x % 64).toNat : Nat) : Int) = x by omega, ← e1]; exact h)
    rw [hz, wb_0] at h4
    exact Bool.noConfusion h4
theorem fst_e {L BL : List jQ} {net k : Int} (hk : 16000 ≤ k) (hfst : ∀ x y, nrP L BL net x y → k ≤ 16 * y + x / 64) : fstP (nrP L BL net) (-1) := Or.inl ⟨rfl, fun x y h => by
  have h1 := hfst x y h
  have h2 := nrP_bd _ _ _ _ _ h
  omega⟩
/-! a diode of another net changes nothing of this one -/
theorem plX_o {DD : List jD} {net net2 layer z l : Int} (h : net2 ≠ net) : plX (DD ++ [dio net2 layer z]) net l = plX DD net l := by
  unfold plX
  rw [lsum_app, lsum_one, if_neg (fun r => h r.1)]
  omega
def sameN (net : Int) (D E : List jD) : Prop := ∀ l, plX D net l = plX E net l
theorem lay_o {ov : List jD → Int → Int → Bool} {pf : List jD → Int → Int} {net net2 layer : Int} (h : net2 ≠ net) : ∀ (n : Nat) (DD : List jD), sameN net (lay ov pf net2 layer n DD) DD
  | 0, DD => fun _ => rfl
  | n + 1, DD => fun l => by
    cases c : ov DD net2 layer
    · rw [lay_no c]
    · by_cases hs : stuck pf DD net2
      · rw [lay_stuck hs]
      · rw [lay_go c hs, lay_o h n _ l, plX_o h]
theorem rly_o {ov : List jD → Int → Int → Bool} {pf : List jD → Int → Int} {net net2 : Int} (h : net2 ≠ net) : ∀ (n : Nat) (DD : List jD), sameN net (rly ov pf net2 n DD) DD
  | 0, DD => fun _ => rfl
  | n + 1, DD => fun l => by
    show plX (lay ov pf net2 n 61 (rly ov pf net2 n DD)) net l = _
    rw [lay_o h 61 _ l, rly_o h n DD l]
theorem rnt_o {ov : List jD → Int → Int → Bool} {pf : List jD → Int → Int} {ly net : Int} {DD : List jD} : ∀ (m n : Nat), n ≤ m → net < (n : Int) → sameN net (rnt ov pf ly m DD) (rnt ov pf ly n DD)
  | 0, n, h, _ => by
    have : n = 0 := by omega
    subst this
    exact fun _ => rfl
  | m + 1, n, h, h2 => fun l => by
    rcases Nat.lt_or_ge m n with q | q
    · have : n = m + 1 := by omega
      subst this
      rfl
    · show plX (rly ov pf m ly.toNat (rnt ov pf ly m DD)) net l = _
      rw [rly_o (by omega) _ _ l, rnt_o m n q h2 l]
theorem ovA_c {ga la lb : Int → Int} {L : List jQ} {TD : List (Int × Int × Int)} {D E : List jD} {net : Int} (h : sameN net D E) (layer : Int) : ovA ga la lb L TD D net layer = ovA ga la lb L TD E net layer := by
  unfold ovA gdA dX
  have e : sm (fun l => tdX TD net l + 16 * plX D net l) 0 (layer + 1) = sm (fun l => tdX TD net l + 16 * plX E net l) 0 (layer + 1) := sm_cg fun l _ _ => by rw [h l]
  rw [e]
