set_option maxHeartbeats 4000000 in
set_option maxRecDepth 100000 in
/-- shape -/
theorem tX5_shape (l : Launch) (D : va_G) (g : ClassId × ClassId × ClassId) (hm : Nat) (md : Nat → Nat) (co : Int) (ly : Int) (nt : Int) (ns : Int) (nd : Int) (np : Int) (nq : Int) (tq : Int) (sn : Int → Int) (sl : Int → Int) (bo : Int → Int) (L : List jQ) (mf : Int → Int64) (net : Int) (layer : Int) (v0 : Int) (v1 : Int) (v2 : Int) (v3 : Int) (hms : msI sn sl bo ns L) (hns : ns ≤ 200) (hnt : 0 ≤ nt ∧ nt ≤ 40) (hly : 1 ≤ ly ∧ ly ≤ 64) (hri : rI net ∧ rI layer ∧ rL v0 ∧ rL v1 ∧ rL v2 ∧ rL v3) : jMi l D g yX5_shape wsX5_shape 5 180 [.ref hm, .int (jI net), .int (jI layer), .long (jL v0), .long (jL v1), .long (jL v2), .long (jL v3)] [(hm, .inr (5, [.int (jI co), .int (jI ly), .int (jI nt), .ref (md 3), .int (jI ns), .ref (md 5), .ref (md 6), .ref (md 7), .int (jI nd), .ref (md 9), .ref (md 10), .ref (md 11), .int (jI np), .ref (md 13), .ref (md 14), .ref (md 15), .ref (md 16), .ref (md 17), .ref (md 18), .ref (md 19), .ref (md 20), .int (jI nq), .ref (md 22), .ref (md 23), .ref (md 24), .ref (md 25), .ref (md 26), .int (jI tq), .ref (md 28), .ref (md 29), .ref (md 30)])), ((md 5), .inl (g.1, 200, .inl (aI sn))), ((md 6), .inl (g.1, 200, .inl (aI sl))), ((md 7), .inl (g.1, 800, .inl (aI bo))), ((md 29), .inl (g.2.1, 16000, .inr (.inl (aW mf))))] (S := Int × Int × (Int → Int) × (Int → Int) × (Int → Int) × (Int → Int64)) (fun z u => (((u.1 = 1 ∧ ¬ ((0 ≤ net ∧ net < nt) ∧ (0 ≤ layer ∧ layer < ly))) ∨ (u.1 = 2 ∧ ((0 ≤ net ∧ net < nt) ∧ (0 ≤ layer ∧ layer < ly)) ∧ ns = 200) ∨ (u.1 = 3 ∧ ((0 ≤ net ∧ net < nt) ∧ (0 ≤ layer ∧ layer < ly)) ∧ ns < 200 ∧ ¬ ((0 ≤ v0 ∧ v0 < v2 ∧ v2 ≤ 1000) ∧ (0 ≤ v1 ∧ v1 < v3 ∧ v3 ≤ 1000)))) ∧ u.2.1 = ns ∧ u.2.2.1 = sn ∧ u.2.2.2.1 = sl ∧ u.2.2.2.2.1 = bo) ∨ (u.1 = 0 ∧ ((0 ≤ net ∧ net < nt) ∧ (0 ≤ layer ∧ layer < ly)) ∧ ns < 200 ∧ ((0 ≤ v0 ∧ v0 < v2 ∧ v2 ≤ 1000) ∧ (0 ≤ v1 ∧ v1 < v3 ∧ v3 ≤ 1000)) ∧ u.2.1 = ns + 1 ∧ msI u.2.2.1 u.2.2.2.1 u.2.2.2.2.1 u.2.1 (L ++ [(net, layer, v0, v1, v2, v3)]) ∧ ((z = 1 ∧ ar L net layer < ar (L ++ [(net, layer, v0, v1, v2, v3)]) net layer) ∨ (z = 0 ∧ ¬ ar L net layer < ar (L ++ [(net, layer, v0, v1, v2, v3)]) net layer)))) (fun u => [(hm, .inr (5, [.int (jI u.1), .int (jI ly), .int (jI nt), .ref (md 3), .int (jI u.2.1), .ref (md 5), .ref (md 6), .ref (md 7), .int (jI nd), .ref (md 9), .ref (md 10), .ref (md 11), .int (jI np), .ref (md 13), .ref (md 14), .ref (md 15), .ref (md 16), .ref (md 17), .ref (md 18), .ref (md 19), .ref (md 20), .int (jI nq), .ref (md 22), .ref (md 23), .ref (md 24), .ref (md 25), .ref (md 26), .int (jI tq), .ref (md 28), .ref (md 29), .ref (md 30)])), ((md 5), .inl (g.1, 200, .inl (aI u.2.2.1))), ((md 6), .inl (g.1, 200, .inl (aI u.2.2.2.1))), ((md 7), .inl (g.1, 800, .inl (aI u.2.2.2.2.1))), ((md 29), .inl (g.2.1, 16000, .inr (.inl (aW u.2.2.2.2.2))))]) := by
  refine jMz_of (cc := cX5_shape) (maxL := 12) (by decide) rfl (Nat.le_of_ble_eq_true rfl) ?_
  intro p e s m args below meth c Q A hx hb hml hts hown hK hA hret ls hl hP hD
  have hS : va_S A s.heap s.heap [] := va_S.rf
  have hown : s.vm.findClass RX5 = some m.cls := hown
  have f13 := hts (.fieldLink RX5 13 "AntennaFillModel" "shapeNet" "[I") (by decide +kernel)
  have f17 := hts (.fieldLink RX5 17 "AntennaFillModel" "shapeLayer" "[I") (by decide +kernel)
  have f20 := hts (.fieldLink RX5 20 "AntennaFillModel" "box" "[I") (by decide +kernel)
  have f84 := hts (.fieldLink RX5 84 "AntennaFillModel" "code" "I") (by decide +kernel)
  have f102 := hts (.fieldLink RX5 102 "AntennaFillModel" "shapes" "I") (by decide +kernel)
  have inX5 : ∀ w ∈ wsX50, w ∈ wsX5_shape := by decide +kernel
  have hl : lv_has ls 12 [(0, .ref hm), (1, .int (jI net)), (2, .int (jI layer)), (3, .long (jL v0)), (5, .long (jL v1)), (7, .long (jL v2)), (9, .long (jL v3))] := hl
  have hlen := hms.1
  have JC : ∀ (cv9 : Int), ((cv9 = 1 ∧ ¬ ((0 ≤ net ∧ net < nt) ∧ (0 ≤ layer ∧ layer < ly))) ∨ (cv9 = 2 ∧ ((0 ≤ net ∧ net < nt) ∧ (0 ≤ layer ∧ layer < ly)) ∧ ns = 200) ∨ (cv9 = 3 ∧ ((0 ≤ net ∧ net < nt) ∧ (0 ≤ layer ∧ layer < ly)) ∧ ns < 200 ∧ ¬ ((0 ≤ v0 ∧ v0 < v2 ∧ v2 ≤ 1000) ∧ (0 ≤ v1 ∧ v1 < v3 ∧ v3 ≤ 1000))) ∨ (cv9 = 0 ∧ ((0 ≤ net ∧ net < nt) ∧ (0 ≤ layer ∧ layer < ly)) ∧ ns < 200 ∧ ((0 ≤ v0 ∧ v0 < v2 ∧ v2 ≤ 1000) ∧ (0 ≤ v1 ∧ v1 < v3 ∧ v3 ≤ 1000)))) → ∀ (H : Heap) (locs : List Loc) (ls : Array Slot), va_P D jcl [(hm, .inr (5, [.int (jI co), .int (jI ly), .int (jI nt), .ref (md 3), .int (jI ns), .ref (md 5), .ref (md 6), .ref (md 7), .int (jI nd), .ref (md 9), .ref (md 10), .ref (md 11), .int (jI np), .ref (md 13), .ref (md 14), .ref (md 15), .ref (md 16), .ref (md 17), .ref (md 18), .ref (md 19), .ref (md 20), .int (jI nq), .ref (md 22), .ref (md 23), .ref (md 24), .ref (md 25), .ref (md 26), .int (jI tq), .ref (md 28), .ref (md 29), .ref (md 30)])), ((md 5), .inl (g.1, 200, .inl (aI sn))), ((md 6), .inl (g.1, 200, .inl (aI sl))), ((md 7), .inl (g.1, 800, .inl (aI bo))), ((md 29), .inl (g.2.1, 16000, .inr (.inl (aW mf))))] H → va_D A [(hm, .inr (5, [.int (jI co), .int (jI ly), .int (jI nt), .ref (md 3), .int (jI ns), .ref (md 5), .ref (md 6), .ref (md 7), .int (jI nd), .ref (md 9), .ref (md 10), .ref (md 11), .int (jI np), .ref (md 13), .ref (md 14), .ref (md 15), .ref (md 16), .ref (md 17), .ref (md 18), .ref (md 19), .ref (md 20), .int (jI nq), .ref (md 22), .ref (md 23), .ref (md 24), .ref (md 25), .ref (md 26), .int (jI tq), .ref (md 28), .ref (md 29), .ref (md 30)])), ((md 5), .inl (g.1, 200, .inl (aI sn))), ((md 6), .inl (g.1, 200, .inl (aI sl))), ((md 7), .inl (g.1, 800, .inl (aI bo))), ((md 29), .inl (g.2.1, 16000, .inr (.inl (aW mf))))] → va_S A s.heap H locs → lv_has ls 12 [(0, .ref hm), (1, .int (jI net)), (2, .int (jI layer)), (3, .long (jL v0)), (5, .long (jL v1)), (7, .long (jL v2)), (9, .long (jL v3))] → W p l e (jR 5 180) s m args below meth c H locs 0 0 Q (F0 m 59 ls [.int (jI cv9), .ref hm]) := by
    intro cv9 hcv H locs ls hP hD hS hl
    have hcr9 : 0 ≤ cv9 ∧ cv9 ≤ 3 := by rcases hcv with q9 | q9 | q9 | q9 <;> (have q8 := q9.1; clear q9; omega)
    have hcx : ((cv9 = 1 ∧ ¬ ((0 ≤ net ∧ net < nt) ∧ (0 ≤ layer ∧ layer < ly))) ∨ (cv9 = 2 ∧ ((0 ≤ net ∧ net < nt) ∧ (0 ≤ layer ∧ layer < ly)) ∧ ns = 200) ∨ (cv9 = 3 ∧ ((0 ≤ net ∧ net < nt) ∧ (0 ≤ layer ∧ layer < ly)) ∧ ns < 200 ∧ ¬ ((0 ≤ v0 ∧ v0 < v2 ∧ v2 ≤ 1000) ∧ (0 ≤ v1 ∧ v1 < v3 ∧ v3 ≤ 1000)))) ∨ (cv9 = 0 ∧ ((0 ≤ net ∧ net < nt) ∧ (0 ≤ layer ∧ layer < ly)) ∧ ns < 200 ∧ ((0 ≤ v0 ∧ v0 < v2 ∧ v2 ≤ 1000) ∧ (0 ≤ v1 ∧ v1 < v3 ∧ v3 ≤ 1000))) := hcv.elim (fun q9 => Or.inl (Or.inl q9)) (fun q9 => q9.elim (fun q9 => Or.inl (Or.inr (Or.inl q9))) (fun q9 => q9.elim (fun q9 => Or.inl (Or.inr (Or.inr q9))) Or.inr))
    clear hcv
    refine va_put (D := D) (ci := 5) (v := .int (jI cv9)) (ty := .int) (C := RX5) (T := TX5) (N := 31) hx hb hts inX5 tyX5 tyX5_ok nmX5 hown hK hP hD hS 0 rfl rfl 0 (by decide) f84 (fun _ h9 => h9) rfl (by decide +kernel) rfl rfl (Nat.le_of_ble_eq_true rfl) dX5_shape_59 (fun H locs hP hD hS => ?_)
    have hP : va_P D jcl [(hm, .inr (5, [.int (jI cv9), .int (jI ly), .int (jI nt), .ref (md 3), .int (jI ns), .ref (md 5), .ref (md 6), .ref (md 7), .int (jI nd), .ref (md 9), .ref (md 10), .ref (md 11), .int (jI np), .ref (md 13), .ref (md 14), .ref (md 15), .ref (md 16), .ref (md 17), .ref (md 18), .ref (md 19), .ref (md 20), .int (jI nq), .ref (md 22), .ref (md 23), .ref (md 24), .ref (md 25), .ref (md 26), .int (jI tq), .ref (md 28), .ref (md 29), .ref (md 30)])), ((md 5), .inl (g.1, 200, .inl (aI sn))), ((md 6), .inl (g.1, 200, .inl (aI sl))), ((md 7), .inl (g.1, 800, .inl (aI bo))), ((md 29), .inl (g.2.1, 16000, .inr (.inl (aW mf))))] H := hP
    have hD : va_D A [(hm, .inr (5, [.int (jI cv9), .int (jI ly), .int (jI nt), .ref (md 3), .int (jI ns), .ref (md 5), .ref (md 6), .ref (md 7), .int (jI nd), .ref (md 9), .ref (md 10), .ref (md 11), .int (jI np), .ref (md 13), .ref (md 14), .ref (md 15), .ref (md 16), .ref (md 17), .ref (md 18), .ref (md 19), .ref (md 20), .int (jI nq), .ref (md 22), .ref (md 23), .ref (md 24), .ref (md 25), .ref (md 26), .int (jI tq), .ref (md 28), .ref (md 29), .ref (md 30)])), ((md 5), .inl (g.1, 200, .inl (aI sn))), ((md 6), .inl (g.1, 200, .inl (aI sl))), ((md 7), .inl (g.1, 800, .inl (aI bo))), ((md 29), .inl (g.2.1, 16000, .inr (.inl (aW mf))))] := hD
    refine lv_aload_n hx hb dX5_shape_62 rfl (lv_at hl 0 rfl) ?_
    refine va_get (D := D) (ci := 5) (v := .int (jI cv9)) (C := RX5) (T := TX5) (N := 31) hx hb hts inX5 hown hK hP 0 rfl rfl 0 (by decide) f84 (fun _ h9 => h9) rfl dX5_shape_63 ?_
    refine jv_if_le (tgt := 71) hx hb ⟨by omega, by omega⟩ dX5_shape_66 (by decide) (fun c66 => ?_) (fun c66 => ?_)
    · skip
      have hok9 := hcx.elim (fun q9 => absurd (show 0 < cv9 by rcases q9 with q8 | q8 | q8 <;> (have q7 := q8.1; omega)) (by omega)) (fun q9 => q9)
      clear hcx
      obtain ⟨hc0, ⟨hon, hol⟩, hons, hosd⟩ := hok9
      refine lv_aload_n hx hb dX5_shape_71 rfl (lv_at hl 0 rfl) ?_
      refine lv_iload_n hx hb dX5_shape_72 rfl (lv_at hl 1 rfl) ?_
      refine lv_iload_n hx hb dX5_shape_73 rfl (lv_at hl 2 rfl) ?_
      refine jc_Vi (As := [.int (jI net), .int (jI layer)]) (rest := []) (wq := []) ⟨hx, hb, hml, hown, hts⟩ (tX5_coveredBy l D g hm md cv9 ly nt ns nd np nq tq sn sl bo L mf net layer (hms) (hns) (⟨by omega, by omega⟩) (⟨by omega, by omega⟩)) (cwV 2 hts gX5_shape_X5_coveredBy rfl rfl rfl (by decide +kernel) ⟨Nat.le_of_ble_eq_true rfl, Nat.le_of_ble_eq_true rfl⟩) hK hP hD hS hA [0, 1, 2, 3, 4] [] rfl rfl (by decide) (by decide) (by decide) (va_recv hK hP (ci := 5) (q0 := 0) rfl rfl) rfl rfl hl.1 (Nat.le_of_ble_eq_true rfl) dX5_shape_74 ⟨Nat.le_of_ble_eq_true rfl, Nat.le_of_ble_eq_true rfl⟩ (fun za1 u H locs hu hP hD hS => ?_)
      obtain ⟨mf1, rfl⟩ : ∃ z9, z9 = u := ⟨_, rfl⟩
      have hu : za1 = ar L net layer := hu
      have hza1 := hu
      have hP : va_P D jcl [(hm, .inr (5, [.int (jI cv9), .int (jI ly), .int (jI nt), .ref (md 3), .int (jI ns), .ref (md 5), .ref (md 6), .ref (md 7), .int (jI nd), .ref (md 9), .ref (md 10), .ref (md 11), .int (jI np), .ref (md 13), .ref (md 14), .ref (md 15), .ref (md 16), .ref (md 17), .ref (md 18), .ref (md 19), .ref (md 20), .int (jI nq), .ref (md 22), .ref (md 23), .ref (md 24), .ref (md 25), .ref (md 26), .int (jI tq), .ref (md 28), .ref (md 29), .ref (md 30)])), ((md 5), .inl (g.1, 200, .inl (aI sn))), ((md 6), .inl (g.1, 200, .inl (aI sl))), ((md 7), .inl (g.1, 800, .inl (aI bo))), ((md 29), .inl (g.2.1, 16000, .inr (.inl (aW mf1))))] H := hP
      have hD : va_D A [(hm, .inr (5, [.int (jI cv9), .int (jI ly), .int (jI nt), .ref (md 3), .int (jI ns), .ref (md 5), .ref (md 6), .ref (md 7), .int (jI nd), .ref (md 9), .ref (md 10), .ref (md 11), .int (jI np), .ref (md 13), .ref (md 14), .ref (md 15), .ref (md 16), .ref (md 17), .ref (md 18), .ref (md 19), .ref (md 20), .int (jI nq), .ref (md 22), .ref (md 23), .ref (md 24), .ref (md 25), .ref (md 26), .int (jI tq), .ref (md 28), .ref (md 29), .ref (md 30)])), ((md 5), .inl (g.1, 200, .inl (aI sn))), ((md 6), .inl (g.1, 200, .inl (aI sl))), ((md 7), .inl (g.1, 800, .inl (aI bo))), ((md 29), .inl (g.2.1, 16000, .inr (.inl (aW mf1))))] := hD
      refine lv_istore (lv' := [(11, .int (jI za1)), (0, .ref hm), (1, .int (jI net)), (2, .int (jI layer)), (3, .long (jL v0)), (5, .long (jL v1)), (7, .long (jL v2)), (9, .long (jL v3))]) hx hb dX5_shape_77 hl (by decide) rfl (fun ls hl => ?_)
      have hab1 := ar_bd L net layer
      refine lv_aload_n hx hb dX5_shape_79 rfl (lv_at hl 1 rfl) ?_
      refine va_get (D := D) (ci := 5) (v := .ref (md 5)) (C := RX5) (T := TX5) (N := 31) hx hb hts inX5 hown hK hP 0 rfl rfl 5 (by decide) f13 (fun _ h9 => h9) rfl dX5_shape_80 ?_
      refine lv_aload_n hx hb dX5_shape_83 rfl (lv_at hl 1 rfl) ?_
      refine va_get (D := D) (ci := 5) (v := .int (jI ns)) (C := RX5) (T := TX5) (N := 31) hx hb hts inX5 hown hK hP 0 rfl rfl 4 (by decide) f102 (fun _ h9 => h9) rfl dX5_shape_84 ?_
      refine lv_iload_n hx hb dX5_shape_87 rfl (lv_at hl 2 rfl) ?_
      refine jv_iast hx hb hK hP hD hS 1 0 rfl rfl (i := ns) (x := net) ⟨by omega, by omega⟩ (Nat.le_of_ble_eq_true rfl) dX5_shape_88 (fun H locs hP hD hS => ?_)
      have hP : va_P D jcl [(hm, .inr (5, [.int (jI cv9), .int (jI ly), .int (jI nt), .ref (md 3), .int (jI ns), .ref (md 5), .ref (md 6), .ref (md 7), .int (jI nd), .ref (md 9), .ref (md 10), .ref (md 11), .int (jI np), .ref (md 13), .ref (md 14), .ref (md 15), .ref (md 16), .ref (md 17), .ref (md 18), .ref (md 19), .ref (md 20), .int (jI nq), .ref (md 22), .ref (md 23), .ref (md 24), .ref (md 25), .ref (md 26), .int (jI tq), .ref (md 28), .ref (md 29), .ref (md 30)])), ((md 5), .inl (g.1, 200, .inl (aI (upI sn ns net)))), ((md 6), .inl (g.1, 200, .inl (aI sl))), ((md 7), .inl (g.1, 800, .inl (aI bo))), ((md 29), .inl (g.2.1, 16000, .inr (.inl (aW mf1))))] H := hP
      have hD : va_D A [(hm, .inr (5, [.int (jI cv9), .int (jI ly), .int (jI nt), .ref (md 3), .int (jI ns), .ref (md 5), .ref (md 6), .ref (md 7), .int (jI nd), .ref (md 9), .ref (md 10), .ref (md 11), .int (jI np), .ref (md 13), .ref (md 14), .ref (md 15), .ref (md 16), .ref (md 17), .ref (md 18), .ref (md 19), .ref (md 20), .int (jI nq), .ref (md 22), .ref (md 23), .ref (md 24), .ref (md 25), .ref (md 26), .int (jI tq), .ref (md 28), .ref (md 29), .ref (md 30)])), ((md 5), .inl (g.1, 200, .inl (aI (upI sn ns net)))), ((md 6), .inl (g.1, 200, .inl (aI sl))), ((md 7), .inl (g.1, 800, .inl (aI bo))), ((md 29), .inl (g.2.1, 16000, .inr (.inl (aW mf1))))] := hD
      refine lv_aload_n hx hb dX5_shape_89 rfl (lv_at hl 1 rfl) ?_
      refine va_get (D := D) (ci := 5) (v := .ref (md 6)) (C := RX5) (T := TX5) (N := 31) hx hb hts inX5 hown hK hP 0 rfl rfl 6 (by decide) f17 (fun _ h9 => h9) rfl dX5_shape_90 ?_
      refine lv_aload_n hx hb dX5_shape_93 rfl (lv_at hl 1 rfl) ?_
      refine va_get (D := D) (ci := 5) (v := .int (jI ns)) (C := RX5) (T := TX5) (N := 31) hx hb hts inX5 hown hK hP 0 rfl rfl 4 (by decide) f102 (fun _ h9 => h9) rfl dX5_shape_94 ?_
      refine lv_iload_n hx hb dX5_shape_97 rfl (lv_at hl 3 rfl) ?_
      refine jv_iast hx hb hK hP hD hS 2 0 rfl rfl (i := ns) (x := layer) ⟨by omega, by omega⟩ (Nat.le_of_ble_eq_true rfl) dX5_shape_98 (fun H locs hP hD hS => ?_)
      have hP : va_P D jcl [(hm, .inr (5, [.int (jI cv9), .int (jI ly), .int (jI nt), .ref (md 3), .int (jI ns), .ref (md 5), .ref (md 6), .ref (md 7), .int (jI nd), .ref (md 9), .ref (md 10), .ref (md 11), .int (jI np), .ref (md 13), .ref (md 14), .ref (md 15), .ref (md 16), .ref (md 17), .ref (md 18), .ref (md 19), .ref (md 20), .int (jI nq), .ref (md 22), .ref (md 23), .ref (md 24), .ref (md 25), .ref (md 26), .int (jI tq), .ref (md 28), .ref (md 29), .ref (md 30)])), ((md 5), .inl (g.1, 200, .inl (aI (upI sn ns net)))), ((md 6), .inl (g.1, 200, .inl (aI (upI sl ns layer)))), ((md 7), .inl (g.1, 800, .inl (aI bo))), ((md 29), .inl (g.2.1, 16000, .inr (.inl (aW mf1))))] H := hP
      have hD : va_D A [(hm, .inr (5, [.int (jI cv9), .int (jI ly), .int (jI nt), .ref (md 3), .int (jI ns), .ref (md 5), .ref (md 6), .ref (md 7), .int (jI nd), .ref (md 9), .ref (md 10), .ref (md 11), .int (jI np), .ref (md 13), .ref (md 14), .ref (md 15), .ref (md 16), .ref (md 17), .ref (md 18), .ref (md 19), .ref (md 20), .int (jI nq), .ref (md 22), .ref (md 23), .ref (md 24), .ref (md 25), .ref (md 26), .int (jI tq), .ref (md 28), .ref (md 29), .ref (md 30)])), ((md 5), .inl (g.1, 200, .inl (aI (upI sn ns net)))), ((md 6), .inl (g.1, 200, .inl (aI (upI sl ns layer)))), ((md 7), .inl (g.1, 800, .inl (aI bo))), ((md 29), .inl (g.2.1, 16000, .inr (.inl (aW mf1))))] := hD
      refine lv_aload_n hx hb dX5_shape_99 rfl (lv_at hl 1 rfl) ?_
      refine va_get (D := D) (ci := 5) (v := .ref (md 7)) (C := RX5) (T := TX5) (N := 31) hx hb hts inX5 hown hK hP 0 rfl rfl 7 (by decide) f20 (fun _ h9 => h9) rfl dX5_shape_100 ?_
      refine jv_iconst hx hb dX5_shape_103 ?_
      refine lv_aload_n hx hb dX5_shape_104 rfl (lv_at hl 1 rfl) ?_
      refine va_get (D := D) (ci := 5) (v := .int (jI ns)) (C := RX5) (T := TX5) (N := 31) hx hb hts inX5 hown hK hP 0 rfl rfl 4 (by decide) f102 (fun _ h9 => h9) rfl dX5_shape_105 ?_
      refine jv_imul hx hb dX5_shape_108 ?_
      refine lv_lload_n hx hb dX5_shape_109 rfl (lv_at hl 4 rfl) ?_
      refine jv_l2i hx hb dX5_shape_110 ?_
      refine jv_iast hx hb hK hP hD hS 3 0 rfl rfl (i := (4 * ns)) (x := v0) ⟨by omega, by omega⟩ (Nat.le_of_ble_eq_true rfl) dX5_shape_111 (fun H locs hP hD hS => ?_)
      have hP : va_P D jcl [(hm, .inr (5, [.int (jI cv9), .int (jI ly), .int (jI nt), .ref (md 3), .int (jI ns), .ref (md 5), .ref (md 6), .ref (md 7), .int (jI nd), .ref (md 9), .ref (md 10), .ref (md 11), .int (jI np), .ref (md 13), .ref (md 14), .ref (md 15), .ref (md 16), .ref (md 17), .ref (md 18), .ref (md 19), .ref (md 20), .int (jI nq), .ref (md 22), .ref (md 23), .ref (md 24), .ref (md 25), .ref (md 26), .int (jI tq), .ref (md 28), .ref (md 29), .ref (md 30)])), ((md 5), .inl (g.1, 200, .inl (aI (upI sn ns net)))), ((md 6), .inl (g.1, 200, .inl (aI (upI sl ns layer)))), ((md 7), .inl (g.1, 800, .inl (aI (upI bo (4 * ns) v0)))), ((md 29), .inl (g.2.1, 16000, .inr (.inl (aW mf1))))] H := hP
      have hD : va_D A [(hm, .inr (5, [.int (jI cv9), .int (jI ly), .int (jI nt), .ref (md 3), .int (jI ns), .ref (md 5), .ref (md 6), .ref (md 7), .int (jI nd), .ref (md 9), .ref (md 10), .ref (md 11), .int (jI np), .ref (md 13), .ref (md 14), .ref (md 15), .ref (md 16), .ref (md 17), .ref (md 18), .ref (md 19), .ref (md 20), .int (jI nq), .ref (md 22), .ref (md 23), .ref (md 24), .ref (md 25), .ref (md 26), .int (jI tq), .ref (md 28), .ref (md 29), .ref (md 30)])), ((md 5), .inl (g.1, 200, .inl (aI (upI sn ns net)))), ((md 6), .inl (g.1, 200, .inl (aI (upI sl ns layer)))), ((md 7), .inl (g.1, 800, .inl (aI (upI bo (4 * ns) v0)))), ((md 29), .inl (g.2.1, 16000, .inr (.inl (aW mf1))))] := hD
      refine lv_aload_n hx hb dX5_shape_112 rfl (lv_at hl 1 rfl) ?_
      refine va_get (D := D) (ci := 5) (v := .ref (md 7)) (C := RX5) (T := TX5) (N := 31) hx hb hts inX5 hown hK hP 0 rfl rfl 7 (by decide) f20 (fun _ h9 => h9) rfl dX5_shape_113 ?_
      refine jv_iconst hx hb dX5_shape_116 ?_
      refine lv_aload_n hx hb dX5_shape_117 rfl (lv_at hl 1 rfl) ?_
      refine va_get (D := D) (ci := 5) (v := .int (jI ns)) (C := RX5) (T := TX5) (N := 31) hx hb hts inX5 hown hK hP 0 rfl rfl 4 (by decide) f102 (fun _ h9 => h9) rfl dX5_shape_118 ?_
      refine jv_imul hx hb dX5_shape_121 ?_
      refine jv_iconst hx hb dX5_shape_122 ?_
      refine jv_iadd hx hb dX5_shape_123 ?_
      refine lv_lload hx hb dX5_shape_124 (lv_at hl 5 rfl) ?_
      refine jv_l2i hx hb dX5_shape_126 ?_
      refine jv_iast hx hb hK hP hD hS 3 0 rfl rfl (i := ((4 * ns) + 1)) (x := v1) ⟨by omega, by omega⟩ (Nat.le_of_ble_eq_true rfl) dX5_shape_127 (fun H locs hP hD hS => ?_)
      have hP : va_P D jcl [(hm, .inr (5, [.int (jI cv9), .int (jI ly), .int (jI nt), .ref (md 3), .int (jI ns), .ref (md 5), .ref (md 6), .ref (md 7), .int (jI nd), .ref (md 9), .ref (md 10), .ref (md 11), .int (jI np), .ref (md 13), .ref (md 14), .ref (md 15), .ref (md 16), .ref (md 17), .ref (md 18), .ref (md 19), .ref (md 20), .int (jI nq), .ref (md 22), .ref (md 23), .ref (md 24), .ref (md 25), .ref (md 26), .int (jI tq), .ref (md 28), .ref (md 29), .ref (md 30)])), ((md 5), .inl (g.1, 200, .inl (aI (upI sn ns net)))), ((md 6), .inl (g.1, 200, .inl (aI (upI sl ns layer)))), ((md 7), .inl (g.1, 800, .inl (aI (upI (upI bo (4 * ns) v0) ((4 * ns) + 1) v1)))), ((md 29), .inl (g.2.1, 16000, .inr (.inl (aW mf1))))] H := hP
      have hD : va_D A [(hm, .inr (5, [.int (jI cv9), .int (jI ly), .int (jI nt), .ref (md 3), .int (jI ns), .ref (md 5), .ref (md 6), .ref (md 7), .int (jI nd), .ref (md 9), .ref (md 10), .ref (md 11), .int (jI np), .ref (md 13), .ref (md 14), .ref (md 15), .ref (md 16), .ref (md 17), .ref (md 18), .ref (md 19), .ref (md 20), .int (jI nq), .ref (md 22), .ref (md 23), .ref (md 24), .ref (md 25), .ref (md 26), .int (jI tq), .ref (md 28), .ref (md 29), .ref (md 30)])), ((md 5), .inl (g.1, 200, .inl (aI (upI sn ns net)))), ((md 6), .inl (g.1, 200, .inl (aI (upI sl ns layer)))), ((md 7), .inl (g.1, 800, .inl (aI (upI (upI bo (4 * ns) v0) ((4 * ns) + 1) v1)))), ((md 29), .inl (g.2.1, 16000, .inr (.inl (aW mf1))))] := hD
      refine lv_aload_n hx hb dX5_shape_128 rfl (lv_at hl 1 rfl) ?_
      refine va_get (D := D) (ci := 5) (v := .ref (md 7)) (C := RX5) (T := TX5) (N := 31) hx hb hts inX5 hown hK hP 0 rfl rfl 7 (by decide) f20 (fun _ h9 => h9) rfl dX5_shape_129 ?_
      refine jv_iconst hx hb dX5_shape_132 ?_
      refine lv_aload_n hx hb dX5_shape_133 rfl (lv_at hl 1 rfl) ?_
      refine va_get (D := D) (ci := 5) (v := .int (jI ns)) (C := RX5) (T := TX5) (N := 31) hx hb hts inX5 hown hK hP 0 rfl rfl 4 (by decide) f102 (fun _ h9 => h9) rfl dX5_shape_134 ?_
      refine jv_imul hx hb dX5_shape_137 ?_
      refine jv_iconst hx hb dX5_shape_138 ?_
      refine jv_iadd hx hb dX5_shape_139 ?_
      refine lv_lload hx hb dX5_shape_140 (lv_at hl 6 rfl) ?_
      refine jv_l2i hx hb dX5_shape_142 ?_
      refine jv_iast hx hb hK hP hD hS 3 0 rfl rfl (i := ((4 * ns) + 2)) (x := v2) ⟨by omega, by omega⟩ (Nat.le_of_ble_eq_true rfl) dX5_shape_143 (fun H locs hP hD hS => ?_)
      have hP : va_P D jcl [(hm, .inr (5, [.int (jI cv9), .int (jI ly), .int (jI nt), .ref (md 3), .int (jI ns), .ref (md 5), .ref (md 6), .ref (md 7), .int (jI nd), .ref (md 9), .ref (md 10), .ref (md 11), .int (jI np), .ref (md 13), .ref (md 14), .ref (md 15), .ref (md 16), .ref (md 17), .ref (md 18), .ref (md 19), .ref (md 20), .int (jI nq), .ref (md 22), .ref (md 23), .ref (md 24), .ref (md 25), .ref (md 26), .int (jI tq), .ref (md 28), .ref (md 29), .ref (md 30)])), ((md 5), .inl (g.1, 200, .inl (aI (upI sn ns net)))), ((md 6), .inl (g.1, 200, .inl (aI (upI sl ns layer)))), ((md 7), .inl (g.1, 800, .inl (aI (upI (upI (upI bo (4 * ns) v0) ((4 * ns) + 1) v1) ((4 * ns) + 2) v2)))), ((md 29), .inl (g.2.1, 16000, .inr (.inl (aW mf1))))] H := hP
      have hD : va_D A [(hm, .inr (5, [.int (jI cv9), .int (jI ly), .int (jI nt), .ref (md 3), .int (jI ns), .ref (md 5), .ref (md 6), .ref (md 7), .int (jI nd), .ref (md 9), .ref (md 10), .ref (md 11), .int (jI np), .ref (md 13), .ref (md 14), .ref (md 15), .ref (md 16), .ref (md 17), .ref (md 18), .ref (md 19), .ref (md 20), .int (jI nq), .ref (md 22), .ref (md 23), .ref (md 24), .ref (md 25), .ref (md 26), .int (jI tq), .ref (md 28), .ref (md 29), .ref (md 30)])), ((md 5), .inl (g.1, 200, .inl (aI (upI sn ns net)))), ((md 6), .inl (g.1, 200, .inl (aI (upI sl ns layer)))), ((md 7), .inl (g.1, 800, .inl (aI (upI (upI (upI bo (4 * ns) v0) ((4 * ns) + 1) v1) ((4 * ns) + 2) v2)))), ((md 29), .inl (g.2.1, 16000, .inr (.inl (aW mf1))))] := hD
      refine lv_aload_n hx hb dX5_shape_144 rfl (lv_at hl 1 rfl) ?_
      refine va_get (D := D) (ci := 5) (v := .ref (md 7)) (C := RX5) (T := TX5) (N := 31) hx hb hts inX5 hown hK hP 0 rfl rfl 7 (by decide) f20 (fun _ h9 => h9) rfl dX5_shape_145 ?_
      refine jv_iconst hx hb dX5_shape_148 ?_
      refine lv_aload_n hx hb dX5_shape_149 rfl (lv_at hl 1 rfl) ?_
      refine va_get (D := D) (ci := 5) (v := .int (jI ns)) (C := RX5) (T := TX5) (N := 31) hx hb hts inX5 hown hK hP 0 rfl rfl 4 (by decide) f102 (fun _ h9 => h9) rfl dX5_shape_150 ?_
      refine jv_imul hx hb dX5_shape_153 ?_
      refine jv_iconst hx hb dX5_shape_154 ?_
      refine jv_iadd hx hb dX5_shape_155 ?_
      refine lv_lload hx hb dX5_shape_156 (lv_at hl 7 rfl) ?_
      refine jv_l2i hx hb dX5_shape_158 ?_
      refine jv_iast hx hb hK hP hD hS 3 0 rfl rfl (i := ((4 * ns) + 3)) (x := v3) ⟨by omega, by omega⟩ (Nat.le_of_ble_eq_true rfl) dX5_shape_159 (fun H locs hP hD hS => ?_)
      have hP : va_P D jcl [(hm, .inr (5, [.int (jI cv9), .int (jI ly), .int (jI nt), .ref (md 3), .int (jI ns), .ref (md 5), .ref (md 6), .ref (md 7), .int (jI nd), .ref (md 9), .ref (md 10), .ref (md 11), .int (jI np), .ref (md 13), .ref (md 14), .ref (md 15), .ref (md 16), .ref (md 17), .ref (md 18), .ref (md 19), .ref (md 20), .int (jI nq), .ref (md 22), .ref (md 23), .ref (md 24), .ref (md 25), .ref (md 26), .int (jI tq), .ref (md 28), .ref (md 29), .ref (md 30)])), ((md 5), .inl (g.1, 200, .inl (aI (upI sn ns net)))), ((md 6), .inl (g.1, 200, .inl (aI (upI sl ns layer)))), ((md 7), .inl (g.1, 800, .inl (aI (upI (upI (upI (upI bo (4 * ns) v0) ((4 * ns) + 1) v1) ((4 * ns) + 2) v2) ((4 * ns) + 3) v3)))), ((md 29), .inl (g.2.1, 16000, .inr (.inl (aW mf1))))] H := hP
      have hD : va_D A [(hm, .inr (5, [.int (jI cv9), .int (jI ly), .int (jI nt), .ref (md 3), .int (jI ns), .ref (md 5), .ref (md 6), .ref (md 7), .int (jI nd), .ref (md 9), .ref (md 10), .ref (md 11), .int (jI np), .ref (md 13), .ref (md 14), .ref (md 15), .ref (md 16), .ref (md 17), .ref (md 18), .ref (md 19), .ref (md 20), .int (jI nq), .ref (md 22), .ref (md 23), .ref (md 24), .ref (md 25), .ref (md 26), .int (jI tq), .ref (md 28), .ref (md 29), .ref (md 30)])), ((md 5), .inl (g.1, 200, .inl (aI (upI sn ns net)))), ((md 6), .inl (g.1, 200, .inl (aI (upI sl ns layer)))), ((md 7), .inl (g.1, 800, .inl (aI (upI (upI (upI (upI bo (4 * ns) v0) ((4 * ns) + 1) v1) ((4 * ns) + 2) v2) ((4 * ns) + 3) v3)))), ((md 29), .inl (g.2.1, 16000, .inr (.inl (aW mf1))))] := hD
      refine lv_aload_n hx hb dX5_shape_160 rfl (lv_at hl 1 rfl) ?_
      refine lv_dup hx hb dX5_shape_161 rfl ?_
      refine va_get (D := D) (ci := 5) (v := .int (jI ns)) (C := RX5) (T := TX5) (N := 31) hx hb hts inX5 hown hK hP 0 rfl rfl 4 (by decide) f102 (fun _ h9 => h9) rfl dX5_shape_162 ?_
      refine jv_iconst hx hb dX5_shape_165 ?_
      refine jv_iadd hx hb dX5_shape_166 ?_
      refine va_put (D := D) (ci := 5) (v := .int (jI (ns + 1))) (ty := .int) (C := RX5) (T := TX5) (N := 31) hx hb hts inX5 tyX5 tyX5_ok nmX5 hown hK hP hD hS 0 rfl rfl 4 (by decide) f102 (fun _ h9 => h9) rfl (by decide +kernel) rfl rfl (Nat.le_of_ble_eq_true rfl) dX5_shape_167 (fun H locs hP hD hS => ?_)
      have hP : va_P D jcl [(hm, .inr (5, [.int (jI cv9), .int (jI ly), .int (jI nt), .ref (md 3), .int (jI (ns + 1)), .ref (md 5), .ref (md 6), .ref (md 7), .int (jI nd), .ref (md 9), .ref (md 10), .ref (md 11), .int (jI np), .ref (md 13), .ref (md 14), .ref (md 15), .ref (md 16), .ref (md 17), .ref (md 18), .ref (md 19), .ref (md 20), .int (jI nq), .ref (md 22), .ref (md 23), .ref (md 24), .ref (md 25), .ref (md 26), .int (jI tq), .ref (md 28), .ref (md 29), .ref (md 30)])), ((md 5), .inl (g.1, 200, .inl (aI (upI sn ns net)))), ((md 6), .inl (g.1, 200, .inl (aI (upI sl ns layer)))), ((md 7), .inl (g.1, 800, .inl (aI (upI (upI (upI (upI bo (4 * ns) v0) ((4 * ns) + 1) v1) ((4 * ns) + 2) v2) ((4 * ns) + 3) v3)))), ((md 29), .inl (g.2.1, 16000, .inr (.inl (aW mf1))))] H := hP
      have hD : va_D A [(hm, .inr (5, [.int (jI cv9), .int (jI ly), .int (jI nt), .ref (md 3), .int (jI (ns + 1)), .ref (md 5), .ref (md 6), .ref (md 7), .int (jI nd), .ref (md 9), .ref (md 10), .ref (md 11), .int (jI np), .ref (md 13), .ref (md 14), .ref (md 15), .ref (md 16), .ref (md 17), .ref (md 18), .ref (md 19), .ref (md 20), .int (jI nq), .ref (md 22), .ref (md 23), .ref (md 24), .ref (md 25), .ref (md 26), .int (jI tq), .ref (md 28), .ref (md 29), .ref (md 30)])), ((md 5), .inl (g.1, 200, .inl (aI (upI sn ns net)))), ((md 6), .inl (g.1, 200, .inl (aI (upI sl ns layer)))), ((md 7), .inl (g.1, 800, .inl (aI (upI (upI (upI (upI bo (4 * ns) v0) ((4 * ns) + 1) v1) ((4 * ns) + 2) v2) ((4 * ns) + 3) v3)))), ((md 29), .inl (g.2.1, 16000, .inr (.inl (aW mf1))))] := hD
      have hP : va_P D jcl [(hm, .inr (5, [.int (jI cv9), .int (jI ly), .int (jI nt), .ref (md 3), .int (jI (ns + 1)), .ref (md 5), .ref (md 6), .ref (md 7), .int (jI nd), .ref (md 9), .ref (md 10), .ref (md 11), .int (jI np), .ref (md 13), .ref (md 14), .ref (md 15), .ref (md 16), .ref (md 17), .ref (md 18), .ref (md 19), .ref (md 20), .int (jI nq), .ref (md 22), .ref (md 23), .ref (md 24), .ref (md 25), .ref (md 26), .int (jI tq), .ref (md 28), .ref (md 29), .ref (md 30)])), ((md 5), .inl (g.1, 200, .inl (aI (upI sn ns net)))), ((md 6), .inl (g.1, 200, .inl (aI (upI sl ns layer)))), ((md 7), .inl (g.1, 800, .inl (aI (bx4 bo (4 * ns) v0 v1 v2 v3)))), ((md 29), .inl (g.2.1, 16000, .inr (.inl (aW mf1))))] H := hP
      have hD : va_D A [(hm, .inr (5, [.int (jI cv9), .int (jI ly), .int (jI nt), .ref (md 3), .int (jI (ns + 1)), .ref (md 5), .ref (md 6), .ref (md 7), .int (jI nd), .ref (md 9), .ref (md 10), .ref (md 11), .int (jI np), .ref (md 13), .ref (md 14), .ref (md 15), .ref (md 16), .ref (md 17), .ref (md 18), .ref (md 19), .ref (md 20), .int (jI nq), .ref (md 22), .ref (md 23), .ref (md 24), .ref (md 25), .ref (md 26), .int (jI tq), .ref (md 28), .ref (md 29), .ref (md 30)])), ((md 5), .inl (g.1, 200, .inl (aI (upI sn ns net)))), ((md 6), .inl (g.1, 200, .inl (aI (upI sl ns layer)))), ((md 7), .inl (g.1, 800, .inl (aI (bx4 bo (4 * ns) v0 v1 v2 v3)))), ((md 29), .inl (g.2.1, 16000, .inr (.inl (aW mf1))))] := hD
      have hmq : msI (upI sn ns net) (upI sl ns layer) (bx4 bo (4 * ns) v0 v1 v2 v3) (ns + 1) (L ++ [(net, layer, v0, v1, v2, v3)]) := msI_s hms ⟨by omega, by omega⟩ ⟨by omega, by omega⟩ (by omega)
      refine lv_aload_n hx hb dX5_shape_170 rfl (lv_at hl 1 rfl) ?_
      refine lv_iload_n hx hb dX5_shape_171 rfl (lv_at hl 2 rfl) ?_
      refine lv_iload_n hx hb dX5_shape_172 rfl (lv_at hl 3 rfl) ?_
      refine jc_Vi (As := [.int (jI net), .int (jI layer)]) (rest := []) (wq := []) ⟨hx, hb, hml, hown, hts⟩ (tX5_coveredBy l D g hm md cv9 ly nt (ns + 1) nd np nq tq (upI sn ns net) (upI sl ns layer) (bx4 bo (4 * ns) v0 v1 v2 v3) (L ++ [(net, layer, v0, v1, v2, v3)]) mf1 net layer (hmq) (by omega) (⟨by omega, by omega⟩) (⟨by omega, by omega⟩)) (cwV 2 hts gX5_shape_X5_coveredBy rfl rfl rfl (by decide +kernel) ⟨Nat.le_of_ble_eq_true rfl, Nat.le_of_ble_eq_true rfl⟩) hK hP hD hS hA [0, 1, 2, 3, 4] [] rfl rfl (by decide) (by decide) (by decide) (va_recv hK hP (ci := 5) (q0 := 0) rfl rfl) rfl rfl hl.1 (Nat.le_of_ble_eq_true rfl) dX5_shape_173 ⟨Nat.le_of_ble_eq_true rfl, Nat.le_of_ble_eq_true rfl⟩ (fun za2 u H locs hu hP hD hS => ?_)
      obtain ⟨mf2, rfl⟩ : ∃ z9, z9 = u := ⟨_, rfl⟩
      have hu : za2 = ar (L ++ [(net, layer, v0, v1, v2, v3)]) net layer := hu
      have hza2 := hu
      have hP : va_P D jcl [(hm, .inr (5, [.int (jI cv9), .int (jI ly), .int (jI nt), .ref (md 3), .int (jI (ns + 1)), .ref (md 5), .ref (md 6), .ref (md 7), .int (jI nd), .ref (md 9), .ref (md 10), .ref (md 11), .int (jI np), .ref (md 13), .ref (md 14), .ref (md 15), .ref (md 16), .ref (md 17), .ref (md 18), .ref (md 19), .ref (md 20), .int (jI nq), .ref (md 22), .ref (md 23), .ref (md 24), .ref (md 25), .ref (md 26), .int (jI tq), .ref (md 28), .ref (md 29), .ref (md 30)])), ((md 5), .inl (g.1, 200, .inl (aI (upI sn ns net)))), ((md 6), .inl (g.1, 200, .inl (aI (upI sl ns layer)))), ((md 7), .inl (g.1, 800, .inl (aI (bx4 bo (4 * ns) v0 v1 v2 v3)))), ((md 29), .inl (g.2.1, 16000, .inr (.inl (aW mf2))))] H := hP
      have hD : va_D A [(hm, .inr (5, [.int (jI cv9), .int (jI ly), .int (jI nt), .ref (md 3), .int (jI (ns + 1)), .ref (md 5), .ref (md 6), .ref (md 7), .int (jI nd), .ref (md 9), .ref (md 10), .ref (md 11), .int (jI np), .ref (md 13), .ref (md 14), .ref (md 15), .ref (md 16), .ref (md 17), .ref (md 18), .ref (md 19), .ref (md 20), .int (jI nq), .ref (md 22), .ref (md 23), .ref (md 24), .ref (md 25), .ref (md 26), .int (jI tq), .ref (md 28), .ref (md 29), .ref (md 30)])), ((md 5), .inl (g.1, 200, .inl (aI (upI sn ns net)))), ((md 6), .inl (g.1, 200, .inl (aI (upI sl ns layer)))), ((md 7), .inl (g.1, 800, .inl (aI (bx4 bo (4 * ns) v0 v1 v2 v3)))), ((md 29), .inl (g.2.1, 16000, .inr (.inl (aW mf2))))] := hD
      have hab2 := ar_bd (L ++ [(net, layer, v0, v1, v2, v3)]) net layer
      refine lv_iload hx hb dX5_shape_176 (lv_at hl 0 rfl) ?_
      refine jv_icmp_le (tgt := 185) hx hb ⟨by omega, by omega⟩ ⟨by omega, by omega⟩ dX5_shape_178 (by decide) (fun c178 => ?_) (fun c178 => ?_)
      · skip
        refine jv_iconst hx hb dX5_shape_185 ?_
        exact hret 0 (cv9, ns + 1, upI sn ns net, upI sl ns layer, (bx4 bo (4 * ns) v0 v1 v2 v3), mf2) _ _ _ _ (by omega) (Or.inr ⟨hc0, ⟨hon, hol⟩, hons, hosd, rfl, hmq, by omega⟩) (hP.sub [0, 1, 2, 3, 4] rfl) (hD.sub [0, 1, 2, 3, 4] (by decide) rfl) hS dX5_shape_186
      · skip
        refine jv_iconst hx hb dX5_shape_181 ?_
        refine lv_goto (tgt := 186) hx hb dX5_shape_182 (by decide) ?_
        exact hret 1 (cv9, ns + 1, upI sn ns net, upI sl ns layer, (bx4 bo (4 * ns) v0 v1 v2 v3), mf2) _ _ _ _ (by omega) (Or.inr ⟨hc0, ⟨hon, hol⟩, hons, hosd, rfl, hmq, by omega⟩) (hP.sub [0, 1, 2, 3, 4] rfl) (hD.sub [0, 1, 2, 3, 4] (by decide) rfl) hS dX5_shape_186
    · skip
      have hbad := hcx.elim (fun q9 => q9) (fun q9 => absurd q9.1 (by omega))
      clear hcx
      refine jv_iconst hx hb dX5_shape_69 ?_
      exact hret 0 (cv9, ns, sn, sl, bo, mf) _ _ _ _ (by omega) (Or.inl ⟨hbad, rfl, rfl, rfl, rfl⟩) (hP.sub [0, 1, 2, 3, 4] rfl) (hD.sub [0, 1, 2, 3, 4] (by decide) rfl) hS dX5_shape_70
  refine lv_aload_n hx hb dX5_shape_0 rfl (lv_at hl 0 rfl) ?_
  refine lv_aload_n hx hb dX5_shape_1 rfl (lv_at hl 0 rfl) ?_
  refine lv_iload_n hx hb dX5_shape_2 rfl (lv_at hl 1 rfl) ?_
  refine jc_Vi (As := [.int (jI net)]) (rest := [.ref hm]) (wq := [((md 5), .inl (g.1, 200, .inl (aI sn))), ((md 6), .inl (g.1, 200, .inl (aI sl))), ((md 7), .inl (g.1, 800, .inl (aI bo))), ((md 29), .inl (g.2.1, 16000, .inr (.inl (aW mf))))]) ⟨hx, hb, hml, hown, hts⟩ (tX5_isNet l D g hm md co ly nt ns nd np nq tq net (⟨hri.1, by omega, by omega⟩)) (cwV 1 hts gX5_shape_X5_isNet rfl rfl rfl (by decide +kernel) ⟨Nat.le_of_ble_eq_true rfl, Nat.le_of_ble_eq_true rfl⟩) hK hP hD hS hA [0] [1, 2, 3, 4] rfl rfl (by decide) (by decide) (by decide) (va_recv hK hP (ci := 5) (q0 := 0) rfl rfl) rfl rfl hl.1 (Nat.le_of_ble_eq_true rfl) dX5_shape_3 ⟨Nat.le_of_ble_eq_true rfl, Nat.le_of_ble_eq_true rfl⟩ (fun zn9 u H locs hu hP hD hS => ?_)
  have hu : (zn9 = 1 ∧ (0 ≤ net ∧ net < nt)) ∨ (zn9 = 0 ∧ ¬ (0 ≤ net ∧ net < nt)) := hu
  have hzn := hu
  have hP : va_P D jcl [((md 5), .inl (g.1, 200, .inl (aI sn))), ((md 6), .inl (g.1, 200, .inl (aI sl))), ((md 7), .inl (g.1, 800, .inl (aI bo))), ((md 29), .inl (g.2.1, 16000, .inr (.inl (aW mf)))), (hm, .inr (5, [.int (jI co), .int (jI ly), .int (jI nt), .ref (md 3), .int (jI ns), .ref (md 5), .ref (md 6), .ref (md 7), .int (jI nd), .ref (md 9), .ref (md 10), .ref (md 11), .int (jI np), .ref (md 13), .ref (md 14), .ref (md 15), .ref (md 16), .ref (md 17), .ref (md 18), .ref (md 19), .ref (md 20), .int (jI nq), .ref (md 22), .ref (md 23), .ref (md 24), .ref (md 25), .ref (md 26), .int (jI tq), .ref (md 28), .ref (md 29), .ref (md 30)]))] H := hP
  have hD : va_D A [((md 5), .inl (g.1, 200, .inl (aI sn))), ((md 6), .inl (g.1, 200, .inl (aI sl))), ((md 7), .inl (g.1, 800, .inl (aI bo))), ((md 29), .inl (g.2.1, 16000, .inr (.inl (aW mf)))), (hm, .inr (5, [.int (jI co), .int (jI ly), .int (jI nt), .ref (md 3), .int (jI ns), .ref (md 5), .ref (md 6), .ref (md 7), .int (jI nd), .ref (md 9), .ref (md 10), .ref (md 11), .int (jI np), .ref (md 13), .ref (md 14), .ref (md 15), .ref (md 16), .ref (md 17), .ref (md 18), .ref (md 19), .ref (md 20), .int (jI nq), .ref (md 22), .ref (md 23), .ref (md 24), .ref (md 25), .ref (md 26), .int (jI tq), .ref (md 28), .ref (md 29), .ref (md 30)]))] := hD
  refine jv_if_eq (tgt := 17) hx hb ⟨by omega, by omega⟩ dX5_shape_6 (by decide) (fun c6 => ?_) (fun c6 => ?_)
  · skip
    have hn0 : ¬ (0 ≤ net ∧ net < nt) := hzn.elim (fun q9 => absurd q9.1 (by omega)) (fun q9 => q9.2)
    clear hzn
    refine jv_iconst hx hb dX5_shape_17 ?_
    refine lv_goto (tgt := 59) hx hb dX5_shape_18 (by decide) ?_
    exact JC 1 (by
      first
      | exact Or.inl ⟨rfl, fun q9 => hn0 q9.1⟩
      | exact Or.inl ⟨rfl, fun q9 => hl0 q9.2⟩
      | exact Or.inr (Or.inl ⟨rfl, ⟨hn1, hl1⟩, c28⟩)
      | exact Or.inr (Or.inr (Or.inl ⟨rfl, ⟨hn1, hl1⟩, hlt9, fun q9 => hs0 q9.1⟩))
      | exact Or.inr (Or.inr (Or.inl ⟨rfl, ⟨hn1, hl1⟩, hlt9, fun q9 => ht0 q9.2⟩))
      | exact Or.inr (Or.inr (Or.inr ⟨rfl, ⟨hn1, hl1⟩, hlt9, hs1, ht1⟩))) _ _ _ (hP.sub [4, 0, 1, 2, 3] rfl) (hD.sub [4, 0, 1, 2, 3] (by decide) rfl) hS (lv_sub hl [0, 1, 2, 3, 4, 5, 6] rfl)
  · skip
    have hn1 : 0 ≤ net ∧ net < nt := hzn.elim (fun q9 => q9.2) (fun q9 => absurd q9.1 (by omega))
    clear hzn
    refine lv_aload_n hx hb dX5_shape_9 rfl (lv_at hl 0 rfl) ?_
    refine lv_iload_n hx hb dX5_shape_10 rfl (lv_at hl 2 rfl) ?_
    refine jc_Vi (As := [.int (jI layer)]) (rest := [.ref hm]) (wq := [((md 5), .inl (g.1, 200, .inl (aI sn))), ((md 6), .inl (g.1, 200, .inl (aI sl))), ((md 7), .inl (g.1, 800, .inl (aI bo))), ((md 29), .inl (g.2.1, 16000, .inr (.inl (aW mf))))]) ⟨hx, hb, hml, hown, hts⟩ (tX5_isLayer l D g hm md co ly nt ns nd np nq tq layer (⟨⟨by omega, by omega⟩, by omega, by omega⟩)) (cwV 1 hts gX5_shape_X5_isLayer rfl rfl rfl (by decide +kernel) ⟨Nat.le_of_ble_eq_true rfl, Nat.le_of_ble_eq_true rfl⟩) hK hP hD hS hA [4] [0, 1, 2, 3] rfl rfl (by decide) (by decide) (by decide) (va_recv hK hP (ci := 5) (q0 := 4) rfl rfl) rfl rfl hl.1 (Nat.le_of_ble_eq_true rfl) dX5_shape_11 ⟨Nat.le_of_ble_eq_true rfl, Nat.le_of_ble_eq_true rfl⟩ (fun zl9 u H locs hu hP hD hS => ?_)
    have hu : (zl9 = 1 ∧ (0 ≤ layer ∧ layer < ly)) ∨ (zl9 = 0 ∧ ¬ (0 ≤ layer ∧ layer < ly)) := hu
    have hzl := hu
    have hP : va_P D jcl [((md 5), .inl (g.1, 200, .inl (aI sn))), ((md 6), .inl (g.1, 200, .inl (aI sl))), ((md 7), .inl (g.1, 800, .inl (aI bo))), ((md 29), .inl (g.2.1, 16000, .inr (.inl (aW mf)))), (hm, .inr (5, [.int (jI co), .int (jI ly), .int (jI nt), .ref (md 3), .int (jI ns), .ref (md 5), .ref (md 6), .ref (md 7), .int (jI nd), .ref (md 9), .ref (md 10), .ref (md 11), .int (jI np), .ref (md 13), .ref (md 14), .ref (md 15), .ref (md 16), .ref (md 17), .ref (md 18), .ref (md 19), .ref (md 20), .int (jI nq), .ref (md 22), .ref (md 23), .ref (md 24), .ref (md 25), .ref (md 26), .int (jI tq), .ref (md 28), .ref (md 29), .ref (md 30)]))] H := hP
    have hD : va_D A [((md 5), .inl (g.1, 200, .inl (aI sn))), ((md 6), .inl (g.1, 200, .inl (aI sl))), ((md 7), .inl (g.1, 800, .inl (aI bo))), ((md 29), .inl (g.2.1, 16000, .inr (.inl (aW mf)))), (hm, .inr (5, [.int (jI co), .int (jI ly), .int (jI nt), .ref (md 3), .int (jI ns), .ref (md 5), .ref (md 6), .ref (md 7), .int (jI nd), .ref (md 9), .ref (md 10), .ref (md 11), .int (jI np), .ref (md 13), .ref (md 14), .ref (md 15), .ref (md 16), .ref (md 17), .ref (md 18), .ref (md 19), .ref (md 20), .int (jI nq), .ref (md 22), .ref (md 23), .ref (md 24), .ref (md 25), .ref (md 26), .int (jI tq), .ref (md 28), .ref (md 29), .ref (md 30)]))] := hD
    refine jv_if_ne (tgt := 21) hx hb ⟨by omega, by omega⟩ dX5_shape_14 (by decide) (fun c14 => ?_) (fun c14 => ?_)
    · skip
      have hl1 : 0 ≤ layer ∧ layer < ly := hzl.elim (fun q9 => q9.2) (fun q9 => absurd q9.1 (by omega))
      clear hzl
      refine lv_aload_n hx hb dX5_shape_21 rfl (lv_at hl 0 rfl) ?_
      refine va_get (D := D) (ci := 5) (v := .int (jI ns)) (C := RX5) (T := TX5) (N := 31) hx hb hts inX5 hown hK hP 4 rfl rfl 4 (by decide) f102 (fun _ h9 => h9) rfl dX5_shape_22 ?_
      refine jv_sipush hx hb (by decide) dX5_shape_25 ?_
      refine jv_icmp_ne (tgt := 35) hx hb ⟨by omega, by omega⟩ ⟨by decide, by decide⟩ dX5_shape_28 (by decide) (fun c28 => ?_) (fun c28 => ?_)
      · skip
        have hlt9 : ns < 200 := by omega
        refine lv_lload_n hx hb dX5_shape_35 rfl (lv_at hl 3 rfl) ?_
        refine lv_lload hx hb dX5_shape_36 (lv_at hl 5 rfl) ?_
        refine jc_Si (As := [.long (jL v0), .long (jL v2)]) (rest := [.ref hm]) (wq := [((md 5), .inl (g.1, 200, .inl (aI sn))), ((md 6), .inl (g.1, 200, .inl (aI sl))), ((md 7), .inl (g.1, 800, .inl (aI bo))), ((md 29), .inl (g.2.1, 16000, .inr (.inl (aW mf)))), (hm, .inr (5, [.int (jI co), .int (jI ly), .int (jI nt), .ref (md 3), .int (jI ns), .ref (md 5), .ref (md 6), .ref (md 7), .int (jI nd), .ref (md 9), .ref (md 10), .ref (md 11), .int (jI np), .ref (md 13), .ref (md 14), .ref (md 15), .ref (md 16), .ref (md 17), .ref (md 18), .ref (md 19), .ref (md 20), .int (jI nq), .ref (md 22), .ref (md 23), .ref (md 24), .ref (md 25), .ref (md 26), .int (jI tq), .ref (md 28), .ref (md 29), .ref (md 30)]))]) ⟨hx, hb, hml, hown, hts⟩ (tX5_isSide l D g v0 v2 (⟨hri.2.2.1, hri.2.2.2.2.1⟩)) (va_cwS 2 hts gX5_shape_X5_isSide rfl rfl rfl (by decide +kernel) ⟨Nat.le_of_ble_eq_true rfl, Nat.le_of_ble_eq_true rfl⟩) hK hP hD hS hA [] [0, 1, 2, 3, 4] rfl rfl (by decide) (by decide) (by decide) rfl rfl hl.1 (Nat.le_of_ble_eq_true rfl) dX5_shape_38 ⟨Nat.le_of_ble_eq_true rfl, Nat.le_of_ble_eq_true rfl⟩ (fun zs1 u H locs hu hP hD hS => ?_)
        have hu : (zs1 = 1 ∧ (0 ≤ v0 ∧ v0 < v2 ∧ v2 ≤ 1000)) ∨ (zs1 = 0 ∧ ¬ (0 ≤ v0 ∧ v0 < v2 ∧ v2 ≤ 1000)) := hu
        have hzs1 := hu
        have hP : va_P D jcl [((md 5), .inl (g.1, 200, .inl (aI sn))), ((md 6), .inl (g.1, 200, .inl (aI sl))), ((md 7), .inl (g.1, 800, .inl (aI bo))), ((md 29), .inl (g.2.1, 16000, .inr (.inl (aW mf)))), (hm, .inr (5, [.int (jI co), .int (jI ly), .int (jI nt), .ref (md 3), .int (jI ns), .ref (md 5), .ref (md 6), .ref (md 7), .int (jI nd), .ref (md 9), .ref (md 10), .ref (md 11), .int (jI np), .ref (md 13), .ref (md 14), .ref (md 15), .ref (md 16), .ref (md 17), .ref (md 18), .ref (md 19), .ref (md 20), .int (jI nq), .ref (md 22), .ref (md 23), .ref (md 24), .ref (md 25), .ref (md 26), .int (jI tq), .ref (md 28), .ref (md 29), .ref (md 30)]))] H := hP
        have hD : va_D A [((md 5), .inl (g.1, 200, .inl (aI sn))), ((md 6), .inl (g.1, 200, .inl (aI sl))), ((md 7), .inl (g.1, 800, .inl (aI bo))), ((md 29), .inl (g.2.1, 16000, .inr (.inl (aW mf)))), (hm, .inr (5, [.int (jI co), .int (jI ly), .int (jI nt), .ref (md 3), .int (jI ns), .ref (md 5), .ref (md 6), .ref (md 7), .int (jI nd), .ref (md 9), .ref (md 10), .ref (md 11), .int (jI np), .ref (md 13), .ref (md 14), .ref (md 15), .ref (md 16), .ref (md 17), .ref (md 18), .ref (md 19), .ref (md 20), .int (jI nq), .ref (md 22), .ref (md 23), .ref (md 24), .ref (md 25), .ref (md 26), .int (jI tq), .ref (md 28), .ref (md 29), .ref (md 30)]))] := hD
        refine jv_if_eq (tgt := 58) hx hb ⟨by omega, by omega⟩ dX5_shape_41 (by decide) (fun c41 => ?_) (fun c41 => ?_)
        · skip
          have hs0 : ¬ (0 ≤ v0 ∧ v0 < v2 ∧ v2 ≤ 1000) := hzs1.elim (fun q9 => absurd q9.1 (by omega)) (fun q9 => q9.2)
          clear hzs1
          refine jv_iconst hx hb dX5_shape_58 ?_
          exact JC 3 (by
            first
            | exact Or.inl ⟨rfl, fun q9 => hn0 q9.1⟩
            | exact Or.inl ⟨rfl, fun q9 => hl0 q9.2⟩
            | exact Or.inr (Or.inl ⟨rfl, ⟨hn1, hl1⟩, c28⟩)
            | exact Or.inr (Or.inr (Or.inl ⟨rfl, ⟨hn1, hl1⟩, hlt9, fun q9 => hs0 q9.1⟩))
            | exact Or.inr (Or.inr (Or.inl ⟨rfl, ⟨hn1, hl1⟩, hlt9, fun q9 => ht0 q9.2⟩))
            | exact Or.inr (Or.inr (Or.inr ⟨rfl, ⟨hn1, hl1⟩, hlt9, hs1, ht1⟩))) _ _ _ (hP.sub [4, 0, 1, 2, 3] rfl) (hD.sub [4, 0, 1, 2, 3] (by decide) rfl) hS (lv_sub hl [0, 1, 2, 3, 4, 5, 6] rfl)
        · skip
          have hs1 : 0 ≤ v0 ∧ v0 < v2 ∧ v2 ≤ 1000 := hzs1.elim (fun q9 => q9.2) (fun q9 => absurd q9.1 (by omega))
          clear hzs1
          refine lv_lload hx hb dX5_shape_44 (lv_at hl 4 rfl) ?_
          refine lv_lload hx hb dX5_shape_46 (lv_at hl 6 rfl) ?_
          refine jc_Si (As := [.long (jL v1), .long (jL v3)]) (rest := [.ref hm]) (wq := [((md 5), .inl (g.1, 200, .inl (aI sn))), ((md 6), .inl (g.1, 200, .inl (aI sl))), ((md 7), .inl (g.1, 800, .inl (aI bo))), ((md 29), .inl (g.2.1, 16000, .inr (.inl (aW mf)))), (hm, .inr (5, [.int (jI co), .int (jI ly), .int (jI nt), .ref (md 3), .int (jI ns), .ref (md 5), .ref (md 6), .ref (md 7), .int (jI nd), .ref (md 9), .ref (md 10), .ref (md 11), .int (jI np), .ref (md 13), .ref (md 14), .ref (md 15), .ref (md 16), .ref (md 17), .ref (md 18), .ref (md 19), .ref (md 20), .int (jI nq), .ref (md 22), .ref (md 23), .ref (md 24), .ref (md 25), .ref (md 26), .int (jI tq), .ref (md 28), .ref (md 29), .ref (md 30)]))]) ⟨hx, hb, hml, hown, hts⟩ (tX5_isSide l D g v1 v3 (⟨hri.2.2.2.1, hri.2.2.2.2.2⟩)) (va_cwS 2 hts gX5_shape_X5_isSide rfl rfl rfl (by decide +kernel) ⟨Nat.le_of_ble_eq_true rfl, Nat.le_of_ble_eq_true rfl⟩) hK hP hD hS hA [] [0, 1, 2, 3, 4] rfl rfl (by decide) (by decide) (by decide) rfl rfl hl.1 (Nat.le_of_ble_eq_true rfl) dX5_shape_48 ⟨Nat.le_of_ble_eq_true rfl, Nat.le_of_ble_eq_true rfl⟩ (fun zs2 u H locs hu hP hD hS => ?_)
          have hu : (zs2 = 1 ∧ (0 ≤ v1 ∧ v1 < v3 ∧ v3 ≤ 1000)) ∨ (zs2 = 0 ∧ ¬ (0 ≤ v1 ∧ v1 < v3 ∧ v3 ≤ 1000)) := hu
          have hzs2 := hu
          have hP : va_P D jcl [((md 5), .inl (g.1, 200, .inl (aI sn))), ((md 6), .inl (g.1, 200, .inl (aI sl))), ((md 7), .inl (g.1, 800, .inl (aI bo))), ((md 29), .inl (g.2.1, 16000, .inr (.inl (aW mf)))), (hm, .inr (5, [.int (jI co), .int (jI ly), .int (jI nt), .ref (md 3), .int (jI ns), .ref (md 5), .ref (md 6), .ref (md 7), .int (jI nd), .ref (md 9), .ref (md 10), .ref (md 11), .int (jI np), .ref (md 13), .ref (md 14), .ref (md 15), .ref (md 16), .ref (md 17), .ref (md 18), .ref (md 19), .ref (md 20), .int (jI nq), .ref (md 22), .ref (md 23), .ref (md 24), .ref (md 25), .ref (md 26), .int (jI tq), .ref (md 28), .ref (md 29), .ref (md 30)]))] H := hP
          have hD : va_D A [((md 5), .inl (g.1, 200, .inl (aI sn))), ((md 6), .inl (g.1, 200, .inl (aI sl))), ((md 7), .inl (g.1, 800, .inl (aI bo))), ((md 29), .inl (g.2.1, 16000, .inr (.inl (aW mf)))), (hm, .inr (5, [.int (jI co), .int (jI ly), .int (jI nt), .ref (md 3), .int (jI ns), .ref (md 5), .ref (md 6), .ref (md 7), .int (jI nd), .ref (md 9), .ref (md 10), .ref (md 11), .int (jI np), .ref (md 13), .ref (md 14), .ref (md 15), .ref (md 16), .ref (md 17), .ref (md 18), .ref (md 19), .ref (md 20), .int (jI nq), .ref (md 22), .ref (md 23), .ref (md 24), .ref (md 25), .ref (md 26), .int (jI tq), .ref (md 28), .ref (md 29), .ref (md 30)]))] := hD
          refine jv_if_eq (tgt := 58) hx hb ⟨by omega, by omega⟩ dX5_shape_51 (by decide) (fun c51 => ?_) (fun c51 => ?_)
          · skip
            have ht0 : ¬ (0 ≤ v1 ∧ v1 < v3 ∧ v3 ≤ 1000) := hzs2.elim (fun q9 => absurd q9.1 (by omega)) (fun q9 => q9.2)
            clear hzs2
            refine jv_iconst hx hb dX5_shape_58 ?_
            exact JC 3 (by
              first
              | exact Or.inl ⟨rfl, fun q9 => hn0 q9.1⟩
              | exact Or.inl ⟨rfl, fun q9 => hl0 q9.2⟩
              | exact Or.inr (Or.inl ⟨rfl, ⟨hn1, hl1⟩, c28⟩)
              | exact Or.inr (Or.inr (Or.inl ⟨rfl, ⟨hn1, hl1⟩, hlt9, fun q9 => hs0 q9.1⟩))
              | exact Or.inr (Or.inr (Or.inl ⟨rfl, ⟨hn1, hl1⟩, hlt9, fun q9 => ht0 q9.2⟩))
              | exact Or.inr (Or.inr (Or.inr ⟨rfl, ⟨hn1, hl1⟩, hlt9, hs1, ht1⟩))) _ _ _ (hP.sub [4, 0, 1, 2, 3] rfl) (hD.sub [4, 0, 1, 2, 3] (by decide) rfl) hS (lv_sub hl [0, 1, 2, 3, 4, 5, 6] rfl)
          · skip
            have ht1 : 0 ≤ v1 ∧ v1 < v3 ∧ v3 ≤ 1000 := hzs2.elim (fun q9 => q9.2) (fun q9 => absurd q9.1 (by omega))
            clear hzs2
            refine jv_iconst hx hb dX5_shape_54 ?_
            refine lv_goto (tgt := 59) hx hb dX5_shape_55 (by decide) ?_
            exact JC 0 (by
              first
              | exact Or.inl ⟨rfl, fun q9 => hn0 q9.1⟩
              | exact Or.inl ⟨rfl, fun q9 => hl0 q9.2⟩
              | exact Or.inr (Or.inl ⟨rfl, ⟨hn1, hl1⟩, c28⟩)
              | exact Or.inr (Or.inr (Or.inl ⟨rfl, ⟨hn1, hl1⟩, hlt9, fun q9 => hs0 q9.1⟩))
              | exact Or.inr (Or.inr (Or.inl ⟨rfl, ⟨hn1, hl1⟩, hlt9, fun q9 => ht0 q9.2⟩))
              | exact Or.inr (Or.inr (Or.inr ⟨rfl, ⟨hn1, hl1⟩, hlt9, hs1, ht1⟩))) _ _ _ (hP.sub [4, 0, 1, 2, 3] rfl) (hD.sub [4, 0, 1, 2, 3] (by decide) rfl) hS (lv_sub hl [0, 1, 2, 3, 4, 5, 6] rfl)
      · skip
        refine jv_iconst hx hb dX5_shape_31 ?_
        refine lv_goto (tgt := 59) hx hb dX5_shape_32 (by decide) ?_
        exact JC 2 (by
          first
          | exact Or.inl ⟨rfl, fun q9 => hn0 q9.1⟩
          | exact Or.inl ⟨rfl, fun q9 => hl0 q9.2⟩
          | exact Or.inr (Or.inl ⟨rfl, ⟨hn1, hl1⟩, c28⟩)
          | exact Or.inr (Or.inr (Or.inl ⟨rfl, ⟨hn1, hl1⟩, hlt9, fun q9 => hs0 q9.1⟩))
          | exact Or.inr (Or.inr (Or.inl ⟨rfl, ⟨hn1, hl1⟩, hlt9, fun q9 => ht0 q9.2⟩))
          | exact Or.inr (Or.inr (Or.inr ⟨rfl, ⟨hn1, hl1⟩, hlt9, hs1, ht1⟩))) _ _ _ (hP.sub [4, 0, 1, 2, 3] rfl) (hD.sub [4, 0, 1, 2, 3] (by decide) rfl) hS (lv_sub hl [0, 1, 2, 3, 4, 5, 6] rfl)
    · skip
      have hl0 : ¬ (0 ≤ layer ∧ layer < ly) := hzl.elim (fun q9 => absurd q9.1 (by omega)) (fun q9 => q9.2)
      clear hzl
      refine jv_iconst hx hb dX5_shape_17 ?_
      refine lv_goto (tgt := 59) hx hb dX5_shape_18 (by decide) ?_
      exact JC 1 (by
        first
        | exact Or.inl ⟨rfl, fun q9 => hn0 q9.1⟩
        | exact Or.inl ⟨rfl, fun q9 => hl0 q9.2⟩
        | exact Or.inr (Or.inl ⟨rfl, ⟨hn1, hl1⟩, c28⟩)
        | exact Or.inr (Or.inr (Or.inl ⟨rfl, ⟨hn1, hl1⟩, hlt9, fun q9 => hs0 q9.1⟩))
        | exact Or.inr (Or.inr (Or.inl ⟨rfl, ⟨hn1, hl1⟩, hlt9, fun q9 => ht0 q9.2⟩))
        | exact Or.inr (Or.inr (Or.inr ⟨rfl, ⟨hn1, hl1⟩, hlt9, hs1, ht1⟩))) _ _ _ (hP.sub [4, 0, 1, 2, 3] rfl) (hD.sub [4, 0, 1, 2, 3] (by decide) rfl) hS (lv_sub hl [0, 1, 2, 3, 4, 5, 6] rfl)
