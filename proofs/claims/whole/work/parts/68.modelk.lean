set_option maxHeartbeats 4000000 in
set_option maxRecDepth 100000 in
/-- fillTile -/
theorem tX5_fillTile (l : Launch) (D : va_G) (g : ClassId × ClassId × ClassId) (hm : Nat) (md : Nat → Nat) (co : Int) (ly : Int) (nt : Int) (ns : Int) (nd : Int) (np : Int) (nq : Int) (tq : Int) (sn : Int → Int) (sl : Int → Int) (bo : Int → Int) (L : List jQ) (qn : Int → Int) (qs : Int → Int) (qx : Int → Int) (qy : Int → Int) (DD : List jD) (rl : Int → Int) (rx : Int → Int) (ry : Int → Int) (rs : Int → Int) (LP : List jQ) (rt : Int → Int) (mf : Int → Int64) (lo : Int → Int) (layer : Int) (t9 : Int) (sz9 : Int) (sp9 : Int) (aw9 : Int) (hms : msI sn sl bo ns L) (hns : ns ≤ 200) (hmd : mdI qn qs qx qy np DD) (hnp : np ≤ 60) (hmp : mpI rl rx ry rs nq LP) (hnq : nq ≤ 1500) (hlay : 0 ≤ layer ∧ layer < 64) (ht9 : 0 ≤ t9 ∧ t9 < 25) (hsz : (4 ≤ sz9 ∧ sz9 ≤ 100) ∧ (0 ≤ sp9 ∧ sp9 ≤ 100) ∧ (0 ≤ aw9 ∧ aw9 ≤ 100)) (hlo : ∀ k, 0 ≤ lo k ∧ lo k ≤ 100) (hcw : cm (mk mf) (t9 % 5 * 200) (t9 % 5 * 200 + 200) (t9 / 5 * 200) (t9 / 5 * 200 + 200) = wcn L (DD.map fun d => d.1) LP layer (t9 % 5 * 200) (t9 / 5 * 200)) (hrt0 : ∀ k : Int, 0 ≤ k → k < nq → rI (rt k) ∧ (rl k = layer → rt k < t9)) : jMv l D g yX5_fillTile wsX5_fillTile 4 160 [.ref hm, .int (jI layer), .int (jI t9), .int (jI sz9), .int (jI sp9), .int (jI aw9)] [(hm, .inr (5, [.int (jI co), .int (jI ly), .int (jI nt), .ref (md 3), .int (jI ns), .ref (md 5), .ref (md 6), .ref (md 7), .int (jI nd), .ref (md 9), .ref (md 10), .ref (md 11), .int (jI np), .ref (md 13), .ref (md 14), .ref (md 15), .ref (md 16), .ref (md 17), .ref (md 18), .ref (md 19), .ref (md 20), .int (jI nq), .ref (md 22), .ref (md 23), .ref (md 24), .ref (md 25), .ref (md 26), .int (jI tq), .ref (md 28), .ref (md 29), .ref (md 30)])), ((md 5), .inl (g.1, 200, .inl (aI sn))), ((md 6), .inl (g.1, 200, .inl (aI sl))), ((md 7), .inl (g.1, 800, .inl (aI bo))), ((md 13), .inl (g.1, 60, .inl (aI qn))), ((md 14), .inl (g.1, 60, .inl (aI qs))), ((md 15), .inl (g.1, 60, .inl (aI qx))), ((md 16), .inl (g.1, 60, .inl (aI qy))), ((md 22), .inl (g.1, 1500, .inl (aI rl))), ((md 23), .inl (g.1, 1500, .inl (aI rx))), ((md 24), .inl (g.1, 1500, .inl (aI ry))), ((md 25), .inl (g.1, 1500, .inl (aI rs))), ((md 26), .inl (g.1, 1500, .inl (aI rt))), ((md 19), .inl (g.1, 64, .inl (aI lo))), ((md 29), .inl (g.2.1, 16000, .inr (.inl (aW mf))))] (S := (Int → Int) × (Int → Int) × (Int → Int) × (Int → Int) × (Int → Int) × Int) (fun u => mpI u.1 u.2.1 u.2.2.1 u.2.2.2.1 u.2.2.2.2.2 (tlF L (DD.map fun d => d.1) (lo layer * 400) layer sz9 sp9 aw9 t9 LP).1 ∧ u.2.2.2.2.2 ≤ 1500 ∧ (∀ k : Int, 0 ≤ k → k < u.2.2.2.2.2 → rI (u.2.2.2.2.1 k) ∧ (u.1 k = layer → u.2.2.2.2.1 k < t9 + 1))) (fun u => [(hm, .inr (5, [.int (jI co), .int (jI ly), .int (jI nt), .ref (md 3), .int (jI ns), .ref (md 5), .ref (md 6), .ref (md 7), .int (jI nd), .ref (md 9), .ref (md 10), .ref (md 11), .int (jI np), .ref (md 13), .ref (md 14), .ref (md 15), .ref (md 16), .ref (md 17), .ref (md 18), .ref (md 19), .ref (md 20), .int (jI u.2.2.2.2.2), .ref (md 22), .ref (md 23), .ref (md 24), .ref (md 25), .ref (md 26), .int (jI tq), .ref (md 28), .ref (md 29), .ref (md 30)])), ((md 5), .inl (g.1, 200, .inl (aI sn))), ((md 6), .inl (g.1, 200, .inl (aI sl))), ((md 7), .inl (g.1, 800, .inl (aI bo))), ((md 13), .inl (g.1, 60, .inl (aI qn))), ((md 14), .inl (g.1, 60, .inl (aI qs))), ((md 15), .inl (g.1, 60, .inl (aI qx))), ((md 16), .inl (g.1, 60, .inl (aI qy))), ((md 22), .inl (g.1, 1500, .inl (aI u.1))), ((md 23), .inl (g.1, 1500, .inl (aI u.2.1))), ((md 24), .inl (g.1, 1500, .inl (aI u.2.2.1))), ((md 25), .inl (g.1, 1500, .inl (aI u.2.2.2.1))), ((md 26), .inl (g.1, 1500, .inl (aI u.2.2.2.2.1))), ((md 19), .inl (g.1, 64, .inl (aI lo))), ((md 29), .inl (g.2.1, 16000, .inr (.inl (aW mf))))]) := by
  refine jMv_of (cc := cX5_fillTile) (maxL := 12) (by decide) rfl (Nat.le_of_ble_eq_true rfl) ?_
  intro p e s m args below meth c Q A hx hb hml hts hown hK hA hret ls hl hP hD
  have hS : va_S A s.heap s.heap [] := va_S.rf
  have hown : s.vm.findClass RX5 = some m.cls := hown
  have f50 := hts (.fieldLink RX5 50 "AntennaFillModel" "low" "[I") (by decide +kernel)
  have f165 := hts (.fieldLink RX5 165 "AntennaFillModel" "pieces" "I") (by decide +kernel)
  have inX5 : ∀ w ∈ wsX50, w ∈ wsX5_fillTile := by decide +kernel
  have k194 := hts (.constant RX5 194 (40000)) (by decide +kernel)
  have hl : lv_has ls 12 [(0, .ref hm), (1, .int (jI layer)), (2, .int (jI t9)), (3, .int (jI sz9)), (4, .int (jI sp9)), (5, .int (jI aw9))] := hl
  have hlo9 := hlo layer
  have hlen3 := hmp.1
  have htsd := tsd_eq hsz.1 hsz.2.1
  obtain ⟨x9, hx9⟩ : ∃ z, z = t9 % 5 * 200 := ⟨_, rfl⟩
  obtain ⟨y9, hy9⟩ : ∃ z, z = t9 / 5 * 200 := ⟨_, rfl⟩
  obtain ⟨sd9, hsd9⟩ : ∃ z, z = tsd sz9 sp9 := ⟨_, rfl⟩
  rw [← hsd9] at htsd
  have hwc := wcn_bd L (DD.map fun d => d.1) LP layer (t9 % 5 * 200) (t9 / 5 * 200)
  obtain ⟨wt9, hwt9⟩ : ∃ z, z = lo layer * 400 := ⟨_, rfl⟩
  refine lv_aload_n hx hb dX5_fillTile_0 rfl (lv_at hl 0 rfl) ?_
  refine lv_iload_n hx hb dX5_fillTile_1 rfl (lv_at hl 2 rfl) ?_
  refine jc_Vi (As := [.int (jI t9)]) (rest := []) (wq := [((md 5), .inl (g.1, 200, .inl (aI sn))), ((md 6), .inl (g.1, 200, .inl (aI sl))), ((md 7), .inl (g.1, 800, .inl (aI bo))), ((md 13), .inl (g.1, 60, .inl (aI qn))), ((md 14), .inl (g.1, 60, .inl (aI qs))), ((md 15), .inl (g.1, 60, .inl (aI qx))), ((md 16), .inl (g.1, 60, .inl (aI qy))), ((md 22), .inl (g.1, 1500, .inl (aI rl))), ((md 23), .inl (g.1, 1500, .inl (aI rx))), ((md 24), .inl (g.1, 1500, .inl (aI ry))), ((md 25), .inl (g.1, 1500, .inl (aI rs))), ((md 26), .inl (g.1, 1500, .inl (aI rt))), ((md 19), .inl (g.1, 64, .inl (aI lo)))]) ⟨hx, hb, hml, hown, hts⟩ (tX5_inTile l D g hm md co ly nt ns nd np nq tq mf t9 (ht9)) (cwV 1 hts gX5_fillTile_X5_inTile rfl rfl rfl (by decide +kernel) ⟨Nat.le_of_ble_eq_true rfl, Nat.le_of_ble_eq_true rfl⟩) hK hP hD hS hA [0, 14] [1, 2, 3, 4, 5, 6, 7, 8, 9, 10, 11, 12, 13] rfl rfl (by decide) (by decide) (by decide) (va_recv hK hP (ci := 5) (q0 := 0) rfl rfl) rfl rfl hl.1 (Nat.le_of_ble_eq_true rfl) dX5_fillTile_2 ⟨Nat.le_of_ble_eq_true rfl, Nat.le_of_ble_eq_true rfl⟩ (fun c09 u H locs hu hP hD hS => ?_)
  have hu : c09 = cm (mk mf) (t9 % 5 * 200) (t9 % 5 * 200 + 200) (t9 / 5 * 200) (t9 / 5 * 200 + 200) := hu
  have hc09 := hu
  have hP : va_P D jcl [((md 5), .inl (g.1, 200, .inl (aI sn))), ((md 6), .inl (g.1, 200, .inl (aI sl))), ((md 7), .inl (g.1, 800, .inl (aI bo))), ((md 13), .inl (g.1, 60, .inl (aI qn))), ((md 14), .inl (g.1, 60, .inl (aI qs))), ((md 15), .inl (g.1, 60, .inl (aI qx))), ((md 16), .inl (g.1, 60, .inl (aI qy))), ((md 22), .inl (g.1, 1500, .inl (aI rl))), ((md 23), .inl (g.1, 1500, .inl (aI rx))), ((md 24), .inl (g.1, 1500, .inl (aI ry))), ((md 25), .inl (g.1, 1500, .inl (aI rs))), ((md 26), .inl (g.1, 1500, .inl (aI rt))), ((md 19), .inl (g.1, 64, .inl (aI lo))), (hm, .inr (5, [.int (jI co), .int (jI ly), .int (jI nt), .ref (md 3), .int (jI ns), .ref (md 5), .ref (md 6), .ref (md 7), .int (jI nd), .ref (md 9), .ref (md 10), .ref (md 11), .int (jI np), .ref (md 13), .ref (md 14), .ref (md 15), .ref (md 16), .ref (md 17), .ref (md 18), .ref (md 19), .ref (md 20), .int (jI nq), .ref (md 22), .ref (md 23), .ref (md 24), .ref (md 25), .ref (md 26), .int (jI tq), .ref (md 28), .ref (md 29), .ref (md 30)])), ((md 29), .inl (g.2.1, 16000, .inr (.inl (aW mf))))] H := hP
  have hD : va_D A [((md 5), .inl (g.1, 200, .inl (aI sn))), ((md 6), .inl (g.1, 200, .inl (aI sl))), ((md 7), .inl (g.1, 800, .inl (aI bo))), ((md 13), .inl (g.1, 60, .inl (aI qn))), ((md 14), .inl (g.1, 60, .inl (aI qs))), ((md 15), .inl (g.1, 60, .inl (aI qx))), ((md 16), .inl (g.1, 60, .inl (aI qy))), ((md 22), .inl (g.1, 1500, .inl (aI rl))), ((md 23), .inl (g.1, 1500, .inl (aI rx))), ((md 24), .inl (g.1, 1500, .inl (aI ry))), ((md 25), .inl (g.1, 1500, .inl (aI rs))), ((md 26), .inl (g.1, 1500, .inl (aI rt))), ((md 19), .inl (g.1, 64, .inl (aI lo))), (hm, .inr (5, [.int (jI co), .int (jI ly), .int (jI nt), .ref (md 3), .int (jI ns), .ref (md 5), .ref (md 6), .ref (md 7), .int (jI nd), .ref (md 9), .ref (md 10), .ref (md 11), .int (jI np), .ref (md 13), .ref (md 14), .ref (md 15), .ref (md 16), .ref (md 17), .ref (md 18), .ref (md 19), .ref (md 20), .int (jI nq), .ref (md 22), .ref (md 23), .ref (md 24), .ref (md 25), .ref (md 26), .int (jI tq), .ref (md 28), .ref (md 29), .ref (md 30)])), ((md 29), .inl (g.2.1, 16000, .inr (.inl (aW mf))))] := hD
  rw [hcw] at hc09
  rw [← hc09] at hwc
  refine lv_istore (lv' := [(6, .int (jI c09)), (0, .ref hm), (1, .int (jI layer)), (2, .int (jI t9)), (3, .int (jI sz9)), (4, .int (jI sp9)), (5, .int (jI aw9))]) hx hb dX5_fillTile_5 hl (by decide) rfl (fun ls hl => ?_)
  refine lv_iload_n hx hb dX5_fillTile_7 rfl (lv_at hl 4 rfl) ?_
  refine lv_iload hx hb dX5_fillTile_8 (lv_at hl 5 rfl) ?_
  refine jv_iadd hx hb dX5_fillTile_10 ?_
  refine jv_nm (fun pt9 hpt9 => ?_)
  have hmx : max 1 (sz9 + sp9) = pt9 := by omega
  refine lv_istore (lv' := [(7, .int (jI pt9)), (6, .int (jI c09)), (0, .ref hm), (1, .int (jI layer)), (2, .int (jI t9)), (3, .int (jI sz9)), (4, .int (jI sp9)), (5, .int (jI aw9))]) hx hb dX5_fillTile_11 hl (by decide) rfl (fun ls hl => ?_)
  have hI0 : mpI rl rx ry rs nq LP ∧ (nq ≤ nq ∧ nq ≤ 1500) ∧ (0 ≤ c09 ∧ c09 ≤ 50000) ∧ pre LP nq = LP ∧ (∀ k : Int, 0 ≤ k → k < nq → rI (rt k) ∧ (k < nq → rl k = layer → rt k < t9) ∧ (nq ≤ k → rt k = t9)) := ⟨hmp, ⟨Int.le_refl _, hnq⟩, by omega, pre_all (by omega), fun k q1 q2 => ⟨(hrt0 k q1 q2).1, fun _ q3 => (hrt0 k q1 q2).2 q3, fun q3 => by omega⟩⟩
  have LO : ∀ (fuel : Nat) (j9 : Int) (rl' : Int → Int) (rx' : Int → Int) (ry' : Int → Int) (rs' : Int → Int) (rt' : Int → Int) (nq' : Int) (LQ : List jQ) (cq : Int), (0 ≤ j9 ∧ j9 ≤ sd9) → (mpI rl' rx' ry' rs' nq' LQ ∧ (nq ≤ nq' ∧ nq' ≤ 1500) ∧ (0 ≤ cq ∧ cq ≤ 50000) ∧ pre LQ nq = LP ∧ (∀ k : Int, 0 ≤ k → k < nq' → rI (rt' k) ∧ (k < nq → rl' k = layer → rt' k < t9) ∧ (nq ≤ k → rt' k = t9))) → ((LQ, cq) = (allF (fun i j => pce layer (x9 + i * pt9) (y9 + j * pt9) sz9) (bBl x9 y9 sz9 pt9 aw9 sp9 L (DD.map fun d => d.1) LP layer) wt9 (sz9 * sz9) (Int.toNat sd9) (Int.toNat j9) (LP, c09))) → (sd9 + 1 - j9 < (fuel : Int)) → ∀ (H : Heap) (locs : List Loc) (ls : Array Slot), va_P D jcl [(hm, .inr (5, [.int (jI co), .int (jI ly), .int (jI nt), .ref (md 3), .int (jI ns), .ref (md 5), .ref (md 6), .ref (md 7), .int (jI nd), .ref (md 9), .ref (md 10), .ref (md 11), .int (jI np), .ref (md 13), .ref (md 14), .ref (md 15), .ref (md 16), .ref (md 17), .ref (md 18), .ref (md 19), .ref (md 20), .int (jI nq'), .ref (md 22), .ref (md 23), .ref (md 24), .ref (md 25), .ref (md 26), .int (jI tq), .ref (md 28), .ref (md 29), .ref (md 30)])), ((md 5), .inl (g.1, 200, .inl (aI sn))), ((md 6), .inl (g.1, 200, .inl (aI sl))), ((md 7), .inl (g.1, 800, .inl (aI bo))), ((md 13), .inl (g.1, 60, .inl (aI qn))), ((md 14), .inl (g.1, 60, .inl (aI qs))), ((md 15), .inl (g.1, 60, .inl (aI qx))), ((md 16), .inl (g.1, 60, .inl (aI qy))), ((md 22), .inl (g.1, 1500, .inl (aI rl'))), ((md 23), .inl (g.1, 1500, .inl (aI rx'))), ((md 24), .inl (g.1, 1500, .inl (aI ry'))), ((md 25), .inl (g.1, 1500, .inl (aI rs'))), ((md 26), .inl (g.1, 1500, .inl (aI rt'))), ((md 19), .inl (g.1, 64, .inl (aI lo))), ((md 29), .inl (g.2.1, 16000, .inr (.inl (aW mf))))] H → va_D A [(hm, .inr (5, [.int (jI co), .int (jI ly), .int (jI nt), .ref (md 3), .int (jI ns), .ref (md 5), .ref (md 6), .ref (md 7), .int (jI nd), .ref (md 9), .ref (md 10), .ref (md 11), .int (jI np), .ref (md 13), .ref (md 14), .ref (md 15), .ref (md 16), .ref (md 17), .ref (md 18), .ref (md 19), .ref (md 20), .int (jI nq'), .ref (md 22), .ref (md 23), .ref (md 24), .ref (md 25), .ref (md 26), .int (jI tq), .ref (md 28), .ref (md 29), .ref (md 30)])), ((md 5), .inl (g.1, 200, .inl (aI sn))), ((md 6), .inl (g.1, 200, .inl (aI sl))), ((md 7), .inl (g.1, 800, .inl (aI bo))), ((md 13), .inl (g.1, 60, .inl (aI qn))), ((md 14), .inl (g.1, 60, .inl (aI qs))), ((md 15), .inl (g.1, 60, .inl (aI qx))), ((md 16), .inl (g.1, 60, .inl (aI qy))), ((md 22), .inl (g.1, 1500, .inl (aI rl'))), ((md 23), .inl (g.1, 1500, .inl (aI rx'))), ((md 24), .inl (g.1, 1500, .inl (aI ry'))), ((md 25), .inl (g.1, 1500, .inl (aI rs'))), ((md 26), .inl (g.1, 1500, .inl (aI rt'))), ((md 19), .inl (g.1, 64, .inl (aI lo))), ((md 29), .inl (g.2.1, 16000, .inr (.inl (aW mf))))] → va_S A s.heap H locs → lv_has ls 12 [(0, .ref hm), (1, .int (jI layer)), (2, .int (jI t9)), (3, .int (jI sz9)), (4, .int (jI sp9)), (5, .int (jI aw9)), (6, .int (jI cq)), (7, .int (jI pt9)), (8, .int (jI j9))] → W p l e (jR 4 160) s m args below meth c H locs 0 0 Q (F0 m 16 ls []) := by
    intro fuel
    induction fuel with
    | zero =>
      intro j9 rl' rx' ry' rs' rt' nq' LQ cq hj hb9 he9 hfu
      exfalso; omega
    | succ fuel ihLO =>
      intro j9 rl' rx' ry' rs' rt' nq' LQ cq hj hb9 he9 hfu H locs ls hP hD hS hl
      have hb10 := mul_bd (a := j9) (b := pt9) (A := 50) (B := 200) ⟨hj.1, by omega⟩ ⟨by omega, by omega⟩
      have hfj := fl_hi (a := 200 - sz9) (p := pt9) (i := j9) (by omega)
      rw [← hpt9] at htsd
      refine lv_iload hx hb dX5_fillTile_16 (lv_at hl 8 rfl) ?_
      refine lv_iload hx hb dX5_fillTile_18 (lv_at hl 7 rfl) ?_
      refine jv_imul hx hb dX5_fillTile_20 ?_
      refine lv_iload_n hx hb dX5_fillTile_21 rfl (lv_at hl 3 rfl) ?_
      refine jv_iadd hx hb dX5_fillTile_22 ?_
      refine jv_sipush hx hb (by decide) dX5_fillTile_23 ?_
      refine jv_icmp_gt (tgt := 152) hx hb ⟨by omega, by omega⟩ ⟨by decide, by decide⟩ dX5_fillTile_26 (by decide) (fun c26 => ?_) (fun c26 => ?_)
      · skip
        have hjn : ¬ j9 * pt9 ≤ 200 - sz9 := by omega
        have hje : j9 = sd9 := by have := fun q9 => hjn (hfj.mp q9); omega
        exact hret  (rl', rx', ry', rs', rt', nq') _ _ _ _ (by
          have e9 : (tlF L (DD.map fun d => d.1) (lo layer * 400) layer sz9 sp9 aw9 t9 LP) = (LQ, cq) := by
            unfold tlF
            rw [hmx, ← hx9, ← hy9, ← hsd9, ← hwt9]
            rw [hx9, hy9, ← hc09, ← hx9, ← hy9, he9, hje]
          rw [e9]
          exact ⟨hb9.1, hb9.2.1.2, fun k q1 q2 => ⟨(hb9.2.2.2.2 k q1 q2).1, fun q3 => by
            show rt' k < t9 + 1
            have q4 := hb9.2.2.2.2 k q1 q2
            rcases Int.lt_or_le k nq with q5 | q5
            · have := q4.2.1 q5 q3; omega
            · have := q4.2.2 q5; omega⟩⟩) (hP.sub [0, 1, 2, 3, 4, 5, 6, 7, 8, 9, 10, 11, 12, 13, 14] rfl) (hD.sub [0, 1, 2, 3, 4, 5, 6, 7, 8, 9, 10, 11, 12, 13, 14] (by decide) rfl) hS dX5_fillTile_152
      · skip
        have hjl : j9 ≤ (200 - sz9) / pt9 := hfj.mpr (by omega)
        have LI : ∀ (fuel : Nat) (i9 : Int) (rl2 : Int → Int) (rx2 : Int → Int) (ry2 : Int → Int) (rs2 : Int → Int) (rt2 : Int → Int) (nq2 : Int) (LR : List jQ) (cr : Int), (0 ≤ i9 ∧ i9 ≤ sd9) → (mpI rl2 rx2 ry2 rs2 nq2 LR ∧ (nq ≤ nq2 ∧ nq2 ≤ 1500) ∧ (0 ≤ cr ∧ cr ≤ 50000) ∧ pre LR nq = LP ∧ (∀ k : Int, 0 ≤ k → k < nq2 → rI (rt2 k) ∧ (k < nq → rl2 k = layer → rt2 k < t9) ∧ (nq ≤ k → rt2 k = t9))) → ((LR, cr) = rowF (fun i j => pce layer (x9 + i * pt9) (y9 + j * pt9) sz9) (bBl x9 y9 sz9 pt9 aw9 sp9 L (DD.map fun d => d.1) LP layer) wt9 (sz9 * sz9) j9 (Int.toNat i9) (LQ, cq)) → (sd9 + 1 - i9 < (fuel : Int)) → ∀ (H : Heap) (locs : List Loc) (ls : Array Slot), va_P D jcl [(hm, .inr (5, [.int (jI co), .int (jI ly), .int (jI nt), .ref (md 3), .int (jI ns), .ref (md 5), .ref (md 6), .ref (md 7), .int (jI nd), .ref (md 9), .ref (md 10), .ref (md 11), .int (jI np), .ref (md 13), .ref (md 14), .ref (md 15), .ref (md 16), .ref (md 17), .ref (md 18), .ref (md 19), .ref (md 20), .int (jI nq2), .ref (md 22), .ref (md 23), .ref (md 24), .ref (md 25), .ref (md 26), .int (jI tq), .ref (md 28), .ref (md 29), .ref (md 30)])), ((md 5), .inl (g.1, 200, .inl (aI sn))), ((md 6), .inl (g.1, 200, .inl (aI sl))), ((md 7), .inl (g.1, 800, .inl (aI bo))), ((md 13), .inl (g.1, 60, .inl (aI qn))), ((md 14), .inl (g.1, 60, .inl (aI qs))), ((md 15), .inl (g.1, 60, .inl (aI qx))), ((md 16), .inl (g.1, 60, .inl (aI qy))), ((md 22), .inl (g.1, 1500, .inl (aI rl2))), ((md 23), .inl (g.1, 1500, .inl (aI rx2))), ((md 24), .inl (g.1, 1500, .inl (aI ry2))), ((md 25), .inl (g.1, 1500, .inl (aI rs2))), ((md 26), .inl (g.1, 1500, .inl (aI rt2))), ((md 19), .inl (g.1, 64, .inl (aI lo))), ((md 29), .inl (g.2.1, 16000, .inr (.inl (aW mf))))] H → va_D A [(hm, .inr (5, [.int (jI co), .int (jI ly), .int (jI nt), .ref (md 3), .int (jI ns), .ref (md 5), .ref (md 6), .ref (md 7), .int (jI nd), .ref (md 9), .ref (md 10), .ref (md 11), .int (jI np), .ref (md 13), .ref (md 14), .ref (md 15), .ref (md 16), .ref (md 17), .ref (md 18), .ref (md 19), .ref (md 20), .int (jI nq2), .ref (md 22), .ref (md 23), .ref (md 24), .ref (md 25), .ref (md 26), .int (jI tq), .ref (md 28), .ref (md 29), .ref (md 30)])), ((md 5), .inl (g.1, 200, .inl (aI sn))), ((md 6), .inl (g.1, 200, .inl (aI sl))), ((md 7), .inl (g.1, 800, .inl (aI bo))), ((md 13), .inl (g.1, 60, .inl (aI qn))), ((md 14), .inl (g.1, 60, .inl (aI qs))), ((md 15), .inl (g.1, 60, .inl (aI qx))), ((md 16), .inl (g.1, 60, .inl (aI qy))), ((md 22), .inl (g.1, 1500, .inl (aI rl2))), ((md 23), .inl (g.1, 1500, .inl (aI rx2))), ((md 24), .inl (g.1, 1500, .inl (aI ry2))), ((md 25), .inl (g.1, 1500, .inl (aI rs2))), ((md 26), .inl (g.1, 1500, .inl (aI rt2))), ((md 19), .inl (g.1, 64, .inl (aI lo))), ((md 29), .inl (g.2.1, 16000, .inr (.inl (aW mf))))] → va_S A s.heap H locs → lv_has ls 12 [(0, .ref hm), (1, .int (jI layer)), (2, .int (jI t9)), (3, .int (jI sz9)), (4, .int (jI sp9)), (5, .int (jI aw9)), (6, .int (jI cr)), (7, .int (jI pt9)), (8, .int (jI j9)), (9, .int (jI i9))] → W p l e (jR 4 160) s m args below meth c H locs 0 0 Q (F0 m 32 ls []) := by
          intro fuel
          induction fuel with
          | zero =>
            intro i9 rl2 rx2 ry2 rs2 rt2 nq2 LR cr hi hb8 he8 hfu
            exfalso; omega
          | succ fuel ihLI =>
            intro i9 rl2 rx2 ry2 rs2 rt2 nq2 LR cr hi hb8 he8 hfu H locs ls hP hD hS hl
            have hb11 := mul_bd (a := i9) (b := pt9) (A := 50) (B := 200) ⟨hi.1, by omega⟩ ⟨by omega, by omega⟩
            have hfi := fl_hi (a := 200 - sz9) (p := pt9) (i := i9) (by omega)
            have hlr := hb8.1.1
            refine lv_iload hx hb dX5_fillTile_32 (lv_at hl 9 rfl) ?_
            refine lv_iload hx hb dX5_fillTile_34 (lv_at hl 7 rfl) ?_
            refine jv_imul hx hb dX5_fillTile_36 ?_
            refine lv_iload_n hx hb dX5_fillTile_37 rfl (lv_at hl 3 rfl) ?_
            refine jv_iadd hx hb dX5_fillTile_38 ?_
            refine jv_sipush hx hb (by decide) dX5_fillTile_39 ?_
            refine jv_icmp_gt (tgt := 146) hx hb ⟨by omega, by omega⟩ ⟨by decide, by decide⟩ dX5_fillTile_42 (by decide) (fun c42 => ?_) (fun c42 => ?_)
            · skip
              have hin : ¬ i9 * pt9 ≤ 200 - sz9 := by omega
              have hie : i9 = sd9 := by have := fun q9 => hin (hfi.mp q9); omega
              refine jv_iinc (lv2 := [(8, .int (jI (j9 + 1))), (0, .ref hm), (1, .int (jI layer)), (2, .int (jI t9)), (3, .int (jI sz9)), (4, .int (jI sp9)), (5, .int (jI aw9)), (6, .int (jI cr)), (7, .int (jI pt9)), (9, .int (jI i9))]) hx hb dX5_fillTile_146 hl (k := 8) rfl (by decide) rfl (fun ls hl => ?_)
              refine lv_goto (tgt := 16) hx hb dX5_fillTile_149 (by decide) ?_
              exact ihLO (j9 + 1) rl2 rx2 ry2 rs2 rt2 nq2 LR cr (by omega) (hb8) (by
                rw [allF_s hj.1, ← he9, show sd9.toNat = i9.toNat by omega]; exact he8) (by omega) _ _ _ (hP.sub [0, 1, 2, 3, 4, 5, 6, 7, 8, 9, 10, 11, 12, 13, 14] rfl) (hD.sub [0, 1, 2, 3, 4, 5, 6, 7, 8, 9, 10, 11, 12, 13, 14] (by decide) rfl) hS (lv_sub hl [1, 2, 3, 4, 5, 6, 7, 8, 0] rfl)
            · skip
              have hil : i9 ≤ (200 - sz9) / pt9 := hfi.mpr (by omega)
              refine jv_bipush hx hb (by decide) dX5_fillTile_45 ?_
              refine lv_iload hx hb dX5_fillTile_47 (lv_at hl 6 rfl) ?_
              refine jv_imul hx hb dX5_fillTile_49 ?_
              refine jv_ldc (n := 40000) hx hb (by decide) hown k194 dX5_fillTile_50 ?_
              refine lv_aload_n hx hb dX5_fillTile_52 rfl (lv_at hl 0 rfl) ?_
              refine va_get (D := D) (ci := 5) (v := .ref (md 19)) (C := RX5) (T := TX5) (N := 31) hx hb hts inX5 hown hK hP 0 rfl rfl 19 (by decide) f50 (fun _ h9 => h9) rfl dX5_fillTile_53 ?_
              refine lv_iload_n hx hb dX5_fillTile_56 rfl (lv_at hl 1 rfl) ?_
              refine jv_iald hx hb hK hP 13 0 rfl rfl (i := layer) ⟨by omega, by omega⟩ (Nat.le_of_ble_eq_true rfl) dX5_fillTile_57 ?_
              refine jv_imul hx hb dX5_fillTile_58 ?_
              refine jv_icmp_ge (tgt := 72) hx hb ⟨by omega, by omega⟩ ⟨by omega, by omega⟩ dX5_fillTile_59 (by decide) (fun c59 => ?_) (fun c59 => ?_)
              · skip
                exact hret  (rl2, rx2, ry2, rs2, rt2, nq2) _ _ _ _ (by
                  have e9 : (tlF L (DD.map fun d => d.1) (lo layer * 400) layer sz9 sp9 aw9 t9 LP) = (LR, cr) := by
                    unfold tlF
                    rw [hmx, ← hx9, ← hy9, ← hsd9, ← hwt9]
                    rw [hx9, hy9, ← hc09, ← hx9, ← hy9]
                    exact all_stop (j := j9) (i := i9) ⟨hj.1, by omega⟩ ⟨hi.1, by omega⟩ he9 he8 (fun q9 => by have q8 : cr < wt9 := q9.1; have q7 : LR.length < 1500 := q9.2; omega)
                  rw [e9]
                  exact ⟨hb8.1, hb8.2.1.2, fun k q1 q2 => ⟨(hb8.2.2.2.2 k q1 q2).1, fun q3 => by
                    show rt2 k < t9 + 1
                    have q4 := hb8.2.2.2.2 k q1 q2
                    rcases Int.lt_or_le k nq with q5 | q5
                    · have := q4.2.1 q5 q3; omega
                    · have := q4.2.2 q5; omega⟩⟩) (hP.sub [0, 1, 2, 3, 4, 5, 6, 7, 8, 9, 10, 11, 12, 13, 14] rfl) (hD.sub [0, 1, 2, 3, 4, 5, 6, 7, 8, 9, 10, 11, 12, 13, 14] (by decide) rfl) hS dX5_fillTile_72
              · skip
                refine lv_aload_n hx hb dX5_fillTile_62 rfl (lv_at hl 0 rfl) ?_
                refine va_get (D := D) (ci := 5) (v := .int (jI nq2)) (C := RX5) (T := TX5) (N := 31) hx hb hts inX5 hown hK hP 0 rfl rfl 21 (by decide) f165 (fun _ h9 => h9) rfl dX5_fillTile_63 ?_
                refine jv_sipush hx hb (by decide) dX5_fillTile_66 ?_
                refine jv_icmp_ne (tgt := 73) hx hb ⟨by omega, by omega⟩ ⟨by decide, by decide⟩ dX5_fillTile_69 (by decide) (fun c69 => ?_) (fun c69 => ?_)
                · skip
                  refine jv_sipush hx hb (by decide) dX5_fillTile_73 ?_
                  refine lv_iload_n hx hb dX5_fillTile_76 rfl (lv_at hl 2 rfl) ?_
                  refine jv_iconst hx hb dX5_fillTile_77 ?_
                  refine jv_iremN hx hb ⟨by omega, by omega, by omega⟩ ⟨by omega, by omega, by omega⟩ dX5_fillTile_78 ?_
                  refine jv_imul hx hb dX5_fillTile_79 ?_
                  refine lv_iload hx hb dX5_fillTile_80 (lv_at hl 9 rfl) ?_
                  refine lv_iload hx hb dX5_fillTile_82 (lv_at hl 7 rfl) ?_
                  refine jv_imul hx hb dX5_fillTile_84 ?_
                  refine jv_iadd hx hb dX5_fillTile_85 ?_
                  refine jv_top (b := x9 + i9 * pt9) (by omega) ?_
                  refine lv_istore (lv' := [(10, .int (jI (x9 + i9 * pt9))), (0, .ref hm), (1, .int (jI layer)), (2, .int (jI t9)), (3, .int (jI sz9)), (4, .int (jI sp9)), (5, .int (jI aw9)), (6, .int (jI cr)), (7, .int (jI pt9)), (8, .int (jI j9)), (9, .int (jI i9))]) hx hb dX5_fillTile_86 hl (by decide) rfl (fun ls hl => ?_)
                  refine jv_sipush hx hb (by decide) dX5_fillTile_88 ?_
                  refine lv_iload_n hx hb dX5_fillTile_91 rfl (lv_at hl 3 rfl) ?_
                  refine jv_iconst hx hb dX5_fillTile_92 ?_
                  refine jv_idivN hx hb ⟨by omega, by omega, by omega⟩ ⟨by omega, by omega, by omega⟩ dX5_fillTile_93 ?_
                  refine jv_imul hx hb dX5_fillTile_94 ?_
                  refine lv_iload hx hb dX5_fillTile_95 (lv_at hl 9 rfl) ?_
                  refine lv_iload hx hb dX5_fillTile_97 (lv_at hl 8 rfl) ?_
                  refine jv_imul hx hb dX5_fillTile_99 ?_
                  refine jv_iadd hx hb dX5_fillTile_100 ?_
                  refine jv_top (b := y9 + j9 * pt9) (by omega) ?_
                  refine lv_istore (lv' := [(11, .int (jI (y9 + j9 * pt9))), (10, .int (jI (x9 + i9 * pt9))), (0, .ref hm), (1, .int (jI layer)), (2, .int (jI t9)), (3, .int (jI sz9)), (4, .int (jI sp9)), (5, .int (jI aw9)), (6, .int (jI cr)), (7, .int (jI pt9)), (8, .int (jI j9)), (9, .int (jI i9))]) hx hb dX5_fillTile_101 hl (by decide) rfl (fun ls hl => ?_)
                  refine lv_aload_n hx hb dX5_fillTile_103 rfl (lv_at hl 2 rfl) ?_
                  refine lv_iload_n hx hb dX5_fillTile_104 rfl (lv_at hl 3 rfl) ?_
                  refine lv_iload_n hx hb dX5_fillTile_105 rfl (lv_at hl 4 rfl) ?_
                  refine lv_iload hx hb dX5_fillTile_106 (lv_at hl 1 rfl) ?_
                  refine lv_iload hx hb dX5_fillTile_108 (lv_at hl 0 rfl) ?_
                  refine lv_iload_n hx hb dX5_fillTile_110 rfl (lv_at hl 5 rfl) ?_
                  refine lv_iload hx hb dX5_fillTile_111 (lv_at hl 6 rfl) ?_
                  refine lv_iload hx hb dX5_fillTile_113 (lv_at hl 7 rfl) ?_
                  refine jc_Vi (As := [.int (jI layer), .int (jI t9), .int (jI (x9 + i9 * pt9)), .int (jI (y9 + j9 * pt9)), .int (jI sz9), .int (jI sp9), .int (jI aw9)]) (rest := []) (wq := [((md 19), .inl (g.1, 64, .inl (aI lo))), ((md 29), .inl (g.2.1, 16000, .inr (.inl (aW mf))))]) ⟨hx, hb, hml, hown, hts⟩ (tX5_fits l D g hm md co ly nt ns nd np nq2 tq sn sl bo L qn qs qx qy DD rl2 rx2 ry2 rs2 LR rt2 nq layer t9 (x9 + i9 * pt9) (y9 + j9 * pt9) sz9 sp9 aw9 (hms) (hns) (hmd) (hnp) (hb8.1) (hb8.2.1.2) (hlay) (⟨by omega, by omega⟩) (by omega) (⟨by omega, hb8.2.1.1⟩) (fun k q1 q2 => by
                    have q4 := hb8.2.2.2.2 k q1 q2
                    exact ⟨q4.1, fun q5 q6 => by have := q4.2.1 q5 q6; omega, q4.2.2⟩)) (cwV 7 hts gX5_fillTile_X5_fits rfl rfl rfl (by decide +kernel) ⟨Nat.le_of_ble_eq_true rfl, Nat.le_of_ble_eq_true rfl⟩) hK hP hD hS hA [0, 1, 2, 3, 4, 5, 6, 7, 8, 9, 10, 11, 12] [13, 14] rfl rfl (by decide) (by decide) (by decide) (va_recv hK hP (ci := 5) (q0 := 0) rfl rfl) rfl rfl hl.1 (Nat.le_of_ble_eq_true rfl) dX5_fillTile_115 ⟨Nat.le_of_ble_eq_true rfl, Nat.le_of_ble_eq_true rfl⟩ (fun z9 u H locs hu hP hD hS => ?_)
                  have hu : (z9 = 1 ∧ (bad0 (x9 + i9 * pt9) (y9 + j9 * pt9) sz9 aw9 sp9 L (DD.map fun d => d.1) (pre LR nq) layer) = false) ∨ (z9 = 0 ∧ (bad0 (x9 + i9 * pt9) (y9 + j9 * pt9) sz9 aw9 sp9 L (DD.map fun d => d.1) (pre LR nq) layer) = true) := hu
                  have hz9 := hu
                  have hP : va_P D jcl [((md 19), .inl (g.1, 64, .inl (aI lo))), ((md 29), .inl (g.2.1, 16000, .inr (.inl (aW mf)))), (hm, .inr (5, [.int (jI co), .int (jI ly), .int (jI nt), .ref (md 3), .int (jI ns), .ref (md 5), .ref (md 6), .ref (md 7), .int (jI nd), .ref (md 9), .ref (md 10), .ref (md 11), .int (jI np), .ref (md 13), .ref (md 14), .ref (md 15), .ref (md 16), .ref (md 17), .ref (md 18), .ref (md 19), .ref (md 20), .int (jI nq2), .ref (md 22), .ref (md 23), .ref (md 24), .ref (md 25), .ref (md 26), .int (jI tq), .ref (md 28), .ref (md 29), .ref (md 30)])), ((md 5), .inl (g.1, 200, .inl (aI sn))), ((md 6), .inl (g.1, 200, .inl (aI sl))), ((md 7), .inl (g.1, 800, .inl (aI bo))), ((md 13), .inl (g.1, 60, .inl (aI qn))), ((md 14), .inl (g.1, 60, .inl (aI qs))), ((md 15), .inl (g.1, 60, .inl (aI qx))), ((md 16), .inl (g.1, 60, .inl (aI qy))), ((md 22), .inl (g.1, 1500, .inl (aI rl2))), ((md 23), .inl (g.1, 1500, .inl (aI rx2))), ((md 24), .inl (g.1, 1500, .inl (aI ry2))), ((md 25), .inl (g.1, 1500, .inl (aI rs2))), ((md 26), .inl (g.1, 1500, .inl (aI rt2)))] H := hP
                  have hD : va_D A [((md 19), .inl (g.1, 64, .inl (aI lo))), ((md 29), .inl (g.2.1, 16000, .inr (.inl (aW mf)))), (hm, .inr (5, [.int (jI co), .int (jI ly), .int (jI nt), .ref (md 3), .int (jI ns), .ref (md 5), .ref (md 6), .ref (md 7), .int (jI nd), .ref (md 9), .ref (md 10), .ref (md 11), .int (jI np), .ref (md 13), .ref (md 14), .ref (md 15), .ref (md 16), .ref (md 17), .ref (md 18), .ref (md 19), .ref (md 20), .int (jI nq2), .ref (md 22), .ref (md 23), .ref (md 24), .ref (md 25), .ref (md 26), .int (jI tq), .ref (md 28), .ref (md 29), .ref (md 30)])), ((md 5), .inl (g.1, 200, .inl (aI sn))), ((md 6), .inl (g.1, 200, .inl (aI sl))), ((md 7), .inl (g.1, 800, .inl (aI bo))), ((md 13), .inl (g.1, 60, .inl (aI qn))), ((md 14), .inl (g.1, 60, .inl (aI qs))), ((md 15), .inl (g.1, 60, .inl (aI qx))), ((md 16), .inl (g.1, 60, .inl (aI qy))), ((md 22), .inl (g.1, 1500, .inl (aI rl2))), ((md 23), .inl (g.1, 1500, .inl (aI rx2))), ((md 24), .inl (g.1, 1500, .inl (aI ry2))), ((md 25), .inl (g.1, 1500, .inl (aI rs2))), ((md 26), .inl (g.1, 1500, .inl (aI rt2)))] := hD
                  rw [hb8.2.2.2.1, bad0_eq] at hz9
                  have hz91 : z9 = 0 ∨ z9 = 1 := by rcases hz9 with q9 | q9 <;> omega
                  refine jv_if_eq (tgt := 140) hx hb ⟨by omega, by omega⟩ dX5_fillTile_118 (by decide) (fun c118 => ?_) (fun c118 => ?_)
                  · skip
                    have hop : bBl x9 y9 sz9 pt9 aw9 sp9 L (DD.map fun d => d.1) LP layer i9 j9 = true := by
                      rcases hz9 with q9 | q9
                      · omega
                      · exact q9.2
                    refine jv_iinc (lv2 := [(9, .int (jI (i9 + 1))), (11, .int (jI (y9 + j9 * pt9))), (10, .int (jI (x9 + i9 * pt9))), (0, .ref hm), (1, .int (jI layer)), (2, .int (jI t9)), (3, .int (jI sz9)), (4, .int (jI sp9)), (5, .int (jI aw9)), (6, .int (jI cr)), (7, .int (jI pt9)), (8, .int (jI j9))]) hx hb dX5_fillTile_140 hl (k := 11) rfl (by decide) rfl (fun ls hl => ?_)
                    refine lv_goto (tgt := 32) hx hb dX5_fillTile_143 (by decide) ?_
                    exact ihLI (i9 + 1) rl2 rx2 ry2 rs2 rt2 nq2 LR cr (by omega) (by
                      first
                      | exact hb8
                      | exact hbn) (by
                      rw [rowF_s hi.1, ← he8]
                      first
                      | exact (stp9_stop (fun q9 => by have q8 := q9.2.2; rw [hop] at q8; exact Bool.noConfusion q8)).symm
                      | exact (stp9_go (ad9 := (fun i j => pce layer (x9 + i * pt9) (y9 + j * pt9) sz9)) (B := (bBl x9 y9 sz9 pt9 aw9 sp9 L (DD.map fun d => d.1) LP layer)) (wt := wt9) (a9 := sz9 * sz9) (st := (LR, cr)) (i := i9) (j := j9) ⟨by show cr < wt9; omega, by show LR.length < 1500; omega, hop⟩).symm) (by omega) _ _ _ (hP.sub [2, 3, 4, 5, 6, 7, 8, 9, 10, 11, 12, 13, 14, 0, 1] rfl) (hD.sub [2, 3, 4, 5, 6, 7, 8, 9, 10, 11, 12, 13, 14, 0, 1] (by decide) rfl) hS (lv_sub hl [3, 4, 5, 6, 7, 8, 9, 10, 11, 0] rfl)
                  · skip
                    have hop : bBl x9 y9 sz9 pt9 aw9 sp9 L (DD.map fun d => d.1) LP layer i9 j9 = false := by
                      rcases hz9 with q9 | q9
                      · exact q9.2
                      · omega
                    have hpk := pce_ok (layer := layer) hlay (x := x9) (y := y9) (by omega) (by omega) hsz.1 (i := i9) (j := j9) (pt := pt9) ⟨hb11.1, by omega⟩ ⟨hb10.1, by omega⟩
                    have hsq := mul_bd (a := sz9) (b := sz9) (A := 100) (B := 100) (by omega) (by omega)
                    refine lv_aload_n hx hb dX5_fillTile_121 rfl (lv_at hl 2 rfl) ?_
                    refine lv_iload_n hx hb dX5_fillTile_122 rfl (lv_at hl 3 rfl) ?_
                    refine lv_iload_n hx hb dX5_fillTile_123 rfl (lv_at hl 4 rfl) ?_
                    refine lv_iload hx hb dX5_fillTile_124 (lv_at hl 1 rfl) ?_
                    refine lv_iload hx hb dX5_fillTile_126 (lv_at hl 0 rfl) ?_
                    refine lv_iload_n hx hb dX5_fillTile_128 rfl (lv_at hl 5 rfl) ?_
                    refine jc_Vv (As := [.int (jI layer), .int (jI t9), .int (jI (x9 + i9 * pt9)), .int (jI (y9 + j9 * pt9)), .int (jI sz9)]) (rest := []) (wq := [((md 19), .inl (g.1, 64, .inl (aI lo))), ((md 29), .inl (g.2.1, 16000, .inr (.inl (aW mf)))), ((md 5), .inl (g.1, 200, .inl (aI sn))), ((md 6), .inl (g.1, 200, .inl (aI sl))), ((md 7), .inl (g.1, 800, .inl (aI bo))), ((md 13), .inl (g.1, 60, .inl (aI qn))), ((md 14), .inl (g.1, 60, .inl (aI qs))), ((md 15), .inl (g.1, 60, .inl (aI qx))), ((md 16), .inl (g.1, 60, .inl (aI qy)))]) ⟨hx, hb, hml, hown, hts⟩ (tX5_put l D g hm md co ly nt ns nd np nq2 tq rl2 rx2 ry2 rs2 rt2 layer t9 (x9 + i9 * pt9) (y9 + j9 * pt9) sz9 (by omega)) (cwV 5 hts gX5_fillTile_X5_put rfl rfl rfl (by decide +kernel) ⟨Nat.le_of_ble_eq_true rfl, Nat.le_of_ble_eq_true rfl⟩) hK hP hD hS hA [2, 10, 11, 12, 13, 14] [0, 1, 3, 4, 5, 6, 7, 8, 9] rfl rfl (by decide) (by decide) (by decide) (va_recv hK hP (ci := 5) (q0 := 2) rfl rfl) rfl rfl hl.1 (Nat.le_of_ble_eq_true rfl) dX5_fillTile_129 ⟨Nat.le_of_ble_eq_true rfl, Nat.le_of_ble_eq_true rfl⟩ (fun u H locs hu hP hD hS => ?_)
                    have hP : va_P D jcl [((md 19), .inl (g.1, 64, .inl (aI lo))), ((md 29), .inl (g.2.1, 16000, .inr (.inl (aW mf)))), ((md 5), .inl (g.1, 200, .inl (aI sn))), ((md 6), .inl (g.1, 200, .inl (aI sl))), ((md 7), .inl (g.1, 800, .inl (aI bo))), ((md 13), .inl (g.1, 60, .inl (aI qn))), ((md 14), .inl (g.1, 60, .inl (aI qs))), ((md 15), .inl (g.1, 60, .inl (aI qx))), ((md 16), .inl (g.1, 60, .inl (aI qy))), (hm, .inr (5, [.int (jI co), .int (jI ly), .int (jI nt), .ref (md 3), .int (jI ns), .ref (md 5), .ref (md 6), .ref (md 7), .int (jI nd), .ref (md 9), .ref (md 10), .ref (md 11), .int (jI np), .ref (md 13), .ref (md 14), .ref (md 15), .ref (md 16), .ref (md 17), .ref (md 18), .ref (md 19), .ref (md 20), .int (jI (nq2 + 1)), .ref (md 22), .ref (md 23), .ref (md 24), .ref (md 25), .ref (md 26), .int (jI tq), .ref (md 28), .ref (md 29), .ref (md 30)])), ((md 22), .inl (g.1, 1500, .inl (aI (upI rl2 nq2 layer)))), ((md 23), .inl (g.1, 1500, .inl (aI (upI rx2 nq2 (x9 + i9 * pt9))))), ((md 24), .inl (g.1, 1500, .inl (aI (upI ry2 nq2 (y9 + j9 * pt9))))), ((md 25), .inl (g.1, 1500, .inl (aI (upI rs2 nq2 sz9)))), ((md 26), .inl (g.1, 1500, .inl (aI (upI rt2 nq2 t9))))] H := hP
                    have hD : va_D A [((md 19), .inl (g.1, 64, .inl (aI lo))), ((md 29), .inl (g.2.1, 16000, .inr (.inl (aW mf)))), ((md 5), .inl (g.1, 200, .inl (aI sn))), ((md 6), .inl (g.1, 200, .inl (aI sl))), ((md 7), .inl (g.1, 800, .inl (aI bo))), ((md 13), .inl (g.1, 60, .inl (aI qn))), ((md 14), .inl (g.1, 60, .inl (aI qs))), ((md 15), .inl (g.1, 60, .inl (aI qx))), ((md 16), .inl (g.1, 60, .inl (aI qy))), (hm, .inr (5, [.int (jI co), .int (jI ly), .int (jI nt), .ref (md 3), .int (jI ns), .ref (md 5), .ref (md 6), .ref (md 7), .int (jI nd), .ref (md 9), .ref (md 10), .ref (md 11), .int (jI np), .ref (md 13), .ref (md 14), .ref (md 15), .ref (md 16), .ref (md 17), .ref (md 18), .ref (md 19), .ref (md 20), .int (jI (nq2 + 1)), .ref (md 22), .ref (md 23), .ref (md 24), .ref (md 25), .ref (md 26), .int (jI tq), .ref (md 28), .ref (md 29), .ref (md 30)])), ((md 22), .inl (g.1, 1500, .inl (aI (upI rl2 nq2 layer)))), ((md 23), .inl (g.1, 1500, .inl (aI (upI rx2 nq2 (x9 + i9 * pt9))))), ((md 24), .inl (g.1, 1500, .inl (aI (upI ry2 nq2 (y9 + j9 * pt9))))), ((md 25), .inl (g.1, 1500, .inl (aI (upI rs2 nq2 sz9)))), ((md 26), .inl (g.1, 1500, .inl (aI (upI rt2 nq2 t9))))] := hD
                    have hbn : mpI (upI rl2 nq2 layer) (upI rx2 nq2 (x9 + i9 * pt9)) (upI ry2 nq2 (y9 + j9 * pt9)) (upI rs2 nq2 sz9) (nq2 + 1) (LR ++ [pce layer (x9 + i9 * pt9) (y9 + j9 * pt9) sz9]) ∧ (nq ≤ nq2 + 1 ∧ nq2 + 1 ≤ 1500) ∧ (0 ≤ cr + sz9 * sz9 ∧ cr + sz9 * sz9 ≤ 50000) ∧ pre (LR ++ [pce layer (x9 + i9 * pt9) (y9 + j9 * pt9) sz9]) nq = LP ∧ (∀ k : Int, 0 ≤ k → k < nq2 + 1 → rI (upI rt2 nq2 t9 k) ∧ (k < nq → upI rl2 nq2 layer k = layer → upI rt2 nq2 t9 k < t9) ∧ (nq ≤ k → upI rt2 nq2 t9 k = t9)) := by
                      refine ⟨mpI_s hb8.1 rfl rfl rfl rfl rfl hpk, by omega, by omega, ?_, fun k q1 q2 => ?_⟩
                      · have q9 := hb8.2.2.2.1
                        unfold pre at q9 ⊢
                        rw [List.take_append_of_le_length (by omega)]
                        exact q9
                      · by_cases q3 : k = nq2
                        · rw [q3, upI_eq, upI_eq]
                          exact ⟨⟨by omega, by omega⟩, fun q4 _ => by omega, fun _ => rfl⟩
                        · rw [upI_ne _ _ q3, upI_ne _ _ q3]
                          exact hb8.2.2.2.2 k q1 (by omega)
                    refine lv_iload hx hb dX5_fillTile_132 (lv_at hl 8 rfl) ?_
                    refine lv_iload_n hx hb dX5_fillTile_134 rfl (lv_at hl 5 rfl) ?_
                    refine lv_iload_n hx hb dX5_fillTile_135 rfl (lv_at hl 5 rfl) ?_
                    refine jv_imul hx hb dX5_fillTile_136 ?_
                    refine jv_iadd hx hb dX5_fillTile_137 ?_
                    refine lv_istore (lv' := [(6, .int (jI (cr + (sz9 * sz9)))), (11, .int (jI (y9 + j9 * pt9))), (10, .int (jI (x9 + i9 * pt9))), (0, .ref hm), (1, .int (jI layer)), (2, .int (jI t9)), (3, .int (jI sz9)), (4, .int (jI sp9)), (5, .int (jI aw9)), (7, .int (jI pt9)), (8, .int (jI j9)), (9, .int (jI i9))]) hx hb dX5_fillTile_138 hl (by decide) rfl (fun ls hl => ?_)
                    refine jv_iinc (lv2 := [(9, .int (jI (i9 + 1))), (6, .int (jI (cr + (sz9 * sz9)))), (11, .int (jI (y9 + j9 * pt9))), (10, .int (jI (x9 + i9 * pt9))), (0, .ref hm), (1, .int (jI layer)), (2, .int (jI t9)), (3, .int (jI sz9)), (4, .int (jI sp9)), (5, .int (jI aw9)), (7, .int (jI pt9)), (8, .int (jI j9))]) hx hb dX5_fillTile_140 hl (k := 11) rfl (by decide) rfl (fun ls hl => ?_)
                    refine lv_goto (tgt := 32) hx hb dX5_fillTile_143 (by decide) ?_
                    exact ihLI (i9 + 1) (upI rl2 nq2 layer) (upI rx2 nq2 (x9 + i9 * pt9)) (upI ry2 nq2 (y9 + j9 * pt9)) (upI rs2 nq2 sz9) (upI rt2 nq2 t9) (nq2 + 1) (LR ++ [pce layer (x9 + i9 * pt9) (y9 + j9 * pt9) sz9]) (cr + (sz9 * sz9)) (by omega) (by
                      first
                      | exact hb8
                      | exact hbn) (by
                      rw [rowF_s hi.1, ← he8]
                      first
                      | exact (stp9_stop (fun q9 => by have q8 := q9.2.2; rw [hop] at q8; exact Bool.noConfusion q8)).symm
                      | exact (stp9_go (ad9 := (fun i j => pce layer (x9 + i * pt9) (y9 + j * pt9) sz9)) (B := (bBl x9 y9 sz9 pt9 aw9 sp9 L (DD.map fun d => d.1) LP layer)) (wt := wt9) (a9 := sz9 * sz9) (st := (LR, cr)) (i := i9) (j := j9) ⟨by show cr < wt9; omega, by show LR.length < 1500; omega, hop⟩).symm) (by omega) _ _ _ (hP.sub [9, 2, 3, 4, 5, 6, 7, 8, 10, 11, 12, 13, 14, 0, 1] rfl) (hD.sub [9, 2, 3, 4, 5, 6, 7, 8, 10, 11, 12, 13, 14, 0, 1] (by decide) rfl) hS (lv_sub hl [4, 5, 6, 7, 8, 9, 1, 10, 11, 0] rfl)
                · skip
                  exact hret  (rl2, rx2, ry2, rs2, rt2, nq2) _ _ _ _ (by
                    have e9 : (tlF L (DD.map fun d => d.1) (lo layer * 400) layer sz9 sp9 aw9 t9 LP) = (LR, cr) := by
                      unfold tlF
                      rw [hmx, ← hx9, ← hy9, ← hsd9, ← hwt9]
                      rw [hx9, hy9, ← hc09, ← hx9, ← hy9]
                      exact all_stop (j := j9) (i := i9) ⟨hj.1, by omega⟩ ⟨hi.1, by omega⟩ he9 he8 (fun q9 => by have q8 : cr < wt9 := q9.1; have q7 : LR.length < 1500 := q9.2; omega)
                    rw [e9]
                    exact ⟨hb8.1, hb8.2.1.2, fun k q1 q2 => ⟨(hb8.2.2.2.2 k q1 q2).1, fun q3 => by
                      show rt2 k < t9 + 1
                      have q4 := hb8.2.2.2.2 k q1 q2
                      rcases Int.lt_or_le k nq with q5 | q5
                      · have := q4.2.1 q5 q3; omega
                      · have := q4.2.2 q5; omega⟩⟩) (hP.sub [0, 1, 2, 3, 4, 5, 6, 7, 8, 9, 10, 11, 12, 13, 14] rfl) (hD.sub [0, 1, 2, 3, 4, 5, 6, 7, 8, 9, 10, 11, 12, 13, 14] (by decide) rfl) hS dX5_fillTile_72
        refine jv_iconst hx hb dX5_fillTile_29 ?_
        refine lv_istore (lv' := [(9, .int (jI 0)), (0, .ref hm), (1, .int (jI layer)), (2, .int (jI t9)), (3, .int (jI sz9)), (4, .int (jI sp9)), (5, .int (jI aw9)), (6, .int (jI cq)), (7, .int (jI pt9)), (8, .int (jI j9))]) hx hb dX5_fillTile_30 hl (by decide) rfl (fun ls hl => ?_)
        exact LI ((sd9 + 1 - 0).toNat + 1) 0 rl' rx' ry' rs' rt' nq' LQ cq (by omega) (hb9) (rfl) (by omega) _ _ _ (hP.sub [0, 1, 2, 3, 4, 5, 6, 7, 8, 9, 10, 11, 12, 13, 14] rfl) (hD.sub [0, 1, 2, 3, 4, 5, 6, 7, 8, 9, 10, 11, 12, 13, 14] (by decide) rfl) hS (lv_sub hl [1, 2, 3, 4, 5, 6, 7, 8, 9, 0] rfl)
  refine jv_iconst hx hb dX5_fillTile_13 ?_
  refine lv_istore (lv' := [(8, .int (jI 0)), (7, .int (jI pt9)), (6, .int (jI c09)), (0, .ref hm), (1, .int (jI layer)), (2, .int (jI t9)), (3, .int (jI sz9)), (4, .int (jI sp9)), (5, .int (jI aw9))]) hx hb dX5_fillTile_14 hl (by decide) rfl (fun ls hl => ?_)
  exact LO ((sd9 + 1 - 0).toNat + 1) 0 rl rx ry rs rt nq LP c09 (by omega) (hI0) (rfl) (by omega) _ _ _ (hP.sub [13, 0, 1, 2, 3, 4, 5, 6, 7, 8, 9, 10, 11, 12, 14] rfl) (hD.sub [13, 0, 1, 2, 3, 4, 5, 6, 7, 8, 9, 10, 11, 12, 14] (by decide) rfl) hS (lv_sub hl [3, 4, 5, 6, 7, 8, 2, 1, 0] rfl)
