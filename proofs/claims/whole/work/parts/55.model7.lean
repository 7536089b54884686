/-! the model's repair: the while loop, the layers, the nets -/
def lmI (ov : List jD → Int → Int → Bool) (pf : List jD → Int → Int) (n i : Int) (DF DG : List jD) (more : Int) : Prop := (more = 1 ∧ ∃ m : Nat, lay ov pf n i m DG = lay ov pf n i 61 DF ∧ 61 ≤ m + DG.length) ∨ (more = 0 ∧ stuck pf DG n ∧ DG = lay ov pf n i 61 DF)
theorem lmI_0 {ov : List jD → Int → Int → Bool} {pf : List jD → Int → Int} {n i : Int} {DF : List jD} : lmI ov pf n i DF DF 1 := Or.inl ⟨rfl, 61, rfl, by omega⟩
theorem lmI_s {ov : List jD → Int → Int → Bool} {pf : List jD → Int → Int} {n i more z : Int} {DF DG : List jD} (h : lmI ov pf n i DF DG more) (hm : more ≠ 0) (hov : ov DG n i = true) (hz : (z = 0 ∧ stuck pf DG n) ∨ (z = 1 ∧ ¬ stuck pf DG n)) : lmI ov pf n i DF (plc pf DG n i) z := by
  rcases h with ⟨_, m, h1, h2⟩ | ⟨h, _⟩
  · rcases hz with ⟨hz, hs⟩ | ⟨hz, hs⟩
    · rw [plc_stuck hs]
      rw [lay_stuck hs] at h1
      exact Or.inr ⟨hz, hs, h1⟩
    · rw [plc_go (fun q => hs (Or.inl q)) (fun q => hs (Or.inr q))]
      have hl : ¬ 60 ≤ DG.length := fun q => hs (Or.inl q)
      obtain ⟨m, rfl⟩ : ∃ k, m = k + 1 := ⟨m - 1, by omega⟩
      rw [lay_go hov hs] at h1
      exact Or.inl ⟨hz, m, h1, by rw [List.length_append, List.length_singleton]; omega⟩
  · exact absurd h hm
theorem lmI_e {ov : List jD → Int → Int → Bool} {pf : List jD → Int → Int} {n i more : Int} {DF DG : List jD} (h : lmI ov pf n i DF DG more) (he : more = 0 ∨ ov DG n i = false) : DG = lay ov pf n i 61 DF := by
  rcases h with ⟨hm, m, h1, h2⟩ | ⟨_, _, h⟩
  · rcases he with he | he
    · omega
    · rw [lay_no he] at h1
      exact h1
  · exact h
theorem lmI_m {ov : List jD → Int → Int → Bool} {pf : List jD → Int → Int} {n i more : Int} {DF DG : List jD} (h : lmI ov pf n i DF DG more) : more = 0 ∨ more = 1 := by
  rcases h with h | h
  · exact Or.inr h.1
  · exact Or.inl h.1
theorem plc_hd {pf : List jD → Int → Int} {DD : List jD} {net layer : Int} (h : ∀ d ∈ DD, 0 ≤ d.2 ∧ d.2 < 64) (hl : 0 ≤ layer ∧ layer < 64) : ∀ d ∈ plc pf DD net layer, 0 ≤ d.2 ∧ d.2 < 64 := by
  intro d hd
  unfold plc at hd
  split at hd
  · exact h d hd
  · split at hd
    · exact h d hd
    · rcases List.mem_append.mp hd with q | q
      · exact h d q
      · rw [List.mem_singleton.mp q]
        exact hl
theorem plc_len {pf : List jD → Int → Int} {DD : List jD} {net layer z : Int} (hz : (z = 0 ∧ stuck pf DD net) ∨ (z = 1 ∧ ¬ stuck pf DD net)) : ((plc pf DD net layer).length : Int) = DD.length + z := by
  rcases hz with ⟨hz, hs⟩ | ⟨hz, hs⟩
  · rw [plc_stuck hs]; omega
  · rw [plc_go (fun q => hs (Or.inl q)) (fun q => hs (Or.inr q)), List.length_append, List.length_singleton]; omega
theorem rly_s {ov : List jD → Int → Int → Bool} {pf : List jD → Int → Int} {net i : Int} {DD : List jD} (h : 0 ≤ i) : rly ov pf net (i + 1).toNat DD = lay ov pf net i 61 (rly ov pf net i.toNat DD) := by
  rw [show (i + 1).toNat = i.toNat + 1 by omega]
  show lay ov pf net ((i.toNat : Nat) : Int) 61 (rly ov pf net i.toNat DD) = _
  rw [show ((i.toNat : Nat) : Int) = i by omega]
theorem rnt_s {ov : List jD → Int → Int → Bool} {pf : List jD → Int → Int} {ly n : Int} {DD : List jD} (h : 0 ≤ n) : rnt ov pf ly (n + 1).toNat DD = rly ov pf n ly.toNat (rnt ov pf ly n.toNat DD) := by
  rw [show (n + 1).toNat = n.toNat + 1 by omega]
  show rly ov pf ((n.toNat : Nat) : Int) ly.toNat (rnt ov pf ly n.toNat DD) = _
  rw [show ((n.toNat : Nat) : Int) = n by omega]
theorem rly_g0 {ga la lb : Int → Int} {L : List jQ} {TD : List (Int × Int × Int)} {pf : List jD → Int → Int} {net : Int} (h : ga net ≤ 0) : ∀ (n : Nat) (DD : List jD), rly (ovA ga la lb L TD) pf net n DD = DD
  | 0, _ => rfl
  | n + 1, DD => by
    show lay (ovA ga la lb L TD) pf net n 61 (rly (ovA ga la lb L TD) pf net n DD) = DD
    rw [rly_g0 h n DD]
    exact lay_no (dec_f (fun q => by omega)) 61
theorem ov_iff5 {ga la lb : Int → Int} {L : List jQ} {TD : List (Int × Int × Int)} {DD : List jD} {net layer z s : Int} (hz : (z = 1 ∧ (0 < ga net ∧ 0 < lb layer ∧ la layer * gdA ga TD DD net layer < s * lb layer)) ∨ (z = 0 ∧ ¬ (0 < ga net ∧ 0 < lb layer ∧ la layer * gdA ga TD DD net layer < s * lb layer))) (hs : s = sm (fun l => ar L net l) 0 (layer + 1)) : (z = 1 ∧ ovA ga la lb L TD DD net layer = true) ∨ (z = 0 ∧ ovA ga la lb L TD DD net layer = false) := by
  unfold ovA anT
  rw [← hs]
  rcases hz with h | h
  · exact Or.inl ⟨h.1, dec_t h.2⟩
  · exact Or.inr ⟨h.1, dec_f h.2⟩
theorem an_cg {P Q : Int → Bool} {n : Int} (h : ∀ k, 0 ≤ k → k < n → P k = Q k) : an P n = an Q n := by
  rw [Bool.eq_iff_iff, an_iff, an_iff]
  exact ⟨fun ⟨k, p, q⟩ => ⟨k, p, by rw [← h k p.1 p.2]; exact q⟩, fun ⟨k, p, q⟩ => ⟨k, p, by rw [h k p.1 p.2]; exact q⟩⟩
theorem sm_ar_bd (L : List jQ) (net : Int) {i : Int} (h : 0 ≤ i ∧ i ≤ 64) : 0 ≤ sm (fun l => ar L net l) 0 i ∧ sm (fun l => ar L net l) 0 i ≤ 64000000 := by
  have := sm_bd (f := fun l => ar L net l) (v := 1000000) h.1 (fun l _ _ => ar_bd L net l)
  omega
