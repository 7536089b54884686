set_option maxHeartbeats 4000000 in
set_option maxRecDepth 100000 in
/-- Grid.firstTouching -/
theorem tX2_firstTouching (l : Launch) (D : va_G) (g : ClassId × ClassId × ClassId) (o : Nat) (a0 : Nat) (f : Int → Int64) (tx : Int) (ty : Int) (ps : Int) (pt : Int) (sd : Int) (st9 : Int) (gr : Int) (hg : (0 ≤ tx ∧ tx ≤ 1000) ∧ (0 ≤ ty ∧ ty ≤ 1000) ∧ (0 ≤ ps ∧ ps ≤ 1000) ∧ (1 ≤ pt ∧ pt ≤ 1000) ∧ (1 ≤ sd ∧ sd ≤ 50)) (hgr : 0 ≤ gr ∧ gr ≤ 1000 ∧ -2000 ≤ st9 ∧ st9 ≤ 2000) : jMi l D g yX2_firstTouching wsX2_firstTouching 2 50 [.ref o, .int (jI st9), .int (jI gr)] [(o, .inr (2, [.ref a0, .int (jI tx), .int (jI ty), .int (jI ps), .int (jI pt), .int (jI sd)])), (a0, .inl (g.2.1, 50, .inr (.inl (aW f))))] (S := Unit) (fun z _ => z = max 0 ((st9 - gr - ps) / pt + 1) ∧ 0 ≤ z ∧ z ≤ 100001) (fun _ => [(o, .inr (2, [.ref a0, .int (jI tx), .int (jI ty), .int (jI ps), .int (jI pt), .int (jI sd)])), (a0, .inl (g.2.1, 50, .inr (.inl (aW f))))]) := by
  refine jMi_of (cc := cX2_firstTouching) (maxL := 3) (by decide) rfl (Nat.le_of_ble_eq_true rfl) ?_
  intro p e s m args below meth c Q A hx hb hml hts hown hK hA hret ls hl hP hD
  have hS : va_S A s.heap s.heap [] := va_S.rf
  have hown : s.vm.findClass RX2 = some m.cls := hown
  have f22 := hts (.fieldLink RX2 22 "AntennaFill$Grid" "pieceSize" "I") (by decide +kernel)
  have f31 := hts (.fieldLink RX2 31 "AntennaFill$Grid" "pitch" "I") (by decide +kernel)
  have inX2 : ∀ w ∈ wsX20, w ∈ wsX2_firstTouching := by decide +kernel
  have m25 := hts (.methodLink RX2 25 Lib.Math.max.name) (by decide +kernel)
  have s25 := hts (.static Lib.Math.max.name) (by decide +kernel)
  have c25 := hts (.code Lib.Math.max.name Lib.Math.max.code 2 (some .int)) (by decide +kernel)
  have iM := hts (.initialized "java/lang/Math") (by decide +kernel)
  have hl : lv_has ls 3 [(0, .ref o), (1, .int (jI st9)), (2, .int (jI gr))] := hl
  refine jv_iconst hx hb dX2_firstTouching_0 ?_
  refine lv_iload_n hx hb dX2_firstTouching_1 rfl (lv_at hl 1 rfl) ?_
  refine lv_iload_n hx hb dX2_firstTouching_2 rfl (lv_at hl 2 rfl) ?_
  refine jv_isub hx hb dX2_firstTouching_3 ?_
  refine lv_aload_n hx hb dX2_firstTouching_4 rfl (lv_at hl 0 rfl) ?_
  refine va_get (D := D) (ci := 2) (v := .int (jI ps)) (C := RX2) (T := TX2) (N := 6) hx hb hts inX2 hown hK hP 0 rfl rfl 3 (by decide) f22 (fun _ h9 => h9) rfl dX2_firstTouching_5 ?_
  refine jv_isub hx hb dX2_firstTouching_8 ?_
  refine lv_aload_n hx hb dX2_firstTouching_9 rfl (lv_at hl 0 rfl) ?_
  refine va_get (D := D) (ci := 2) (v := .int (jI pt)) (C := RX2) (T := TX2) (N := 6) hx hb hts inX2 hown hK hP 0 rfl rfl 4 (by decide) f31 (fun _ h9 => h9) rfl dX2_firstTouching_10 ?_
  refine jc_Si (As := [.int (jI ((st9 - gr) - ps)), .int (jI pt)]) (rest := [.int (jI 0)]) (wq := [(o, .inr (2, [.ref a0, .int (jI tx), .int (jI ty), .int (jI ps), .int (jI pt), .int (jI sd)])), (a0, .inl (g.2.1, 50, .inr (.inl (aW f))))]) ⟨hx, hb, hml, hown, hts⟩ (tJ9_floorDiv l D g ((st9 - gr) - ps) pt (⟨by omega, by omega⟩) (⟨by omega, by omega, by omega⟩)) (va_cwS 2 hts gX2_firstTouching_J9_floorDiv_7cf53 rfl rfl rfl (by decide +kernel) ⟨Nat.le_of_ble_eq_true rfl, Nat.le_of_ble_eq_true rfl⟩) hK hP hD hS hA [] [0, 1] rfl rfl (by decide) (by decide) (by decide) rfl rfl hl.1 (Nat.le_of_ble_eq_true rfl) dX2_firstTouching_13 ⟨Nat.le_refl 0, Nat.le_refl 0⟩ (fun z9 u H locs hu hP hD hS => ?_)
  have hu : z9 = ((st9 - gr) - ps) / pt := hu
  have hz9 := hu
  have hP : va_P D jcl [(o, .inr (2, [.ref a0, .int (jI tx), .int (jI ty), .int (jI ps), .int (jI pt), .int (jI sd)])), (a0, .inl (g.2.1, 50, .inr (.inl (aW f))))] H := hP
  have hD : va_D A [(o, .inr (2, [.ref a0, .int (jI tx), .int (jI ty), .int (jI ps), .int (jI pt), .int (jI sd)])), (a0, .inl (g.2.1, 50, .inr (.inl (aW f))))] := hD
  have hfb := fl_bd (a := (st9 - gr - ps)) (p := pt) (by omega) ⟨by omega, by omega⟩
  rw [← hz9] at hfb
  refine jv_iconst hx hb dX2_firstTouching_16 ?_
  refine jv_iadd hx hb dX2_firstTouching_17 ?_
  refine jv_max hx hb (hml.trans hl.1.symm) hown m25 s25 iM c25 (Nat.le_of_ble_eq_true rfl) (Nat.le_of_ble_eq_true rfl) (Nat.le_refl 0) (Nat.le_refl 0) ⟨by decide, by decide⟩ ⟨by omega, by omega⟩ dX2_firstTouching_18 (fun x_1 ex_1 => ?_)
  exact hret x_1 () _ _ _ _ (by rw [← hz9]; exact ⟨by omega, by omega, by omega⟩) (hP.sub [0, 1] rfl) (hD.sub [0, 1] (by decide) rfl) hS dX2_firstTouching_21

set_option maxHeartbeats 4000000 in
set_option maxRecDepth 100000 in
/-- Grid.lastTouching -/
theorem tX2_lastTouching (l : Launch) (D : va_G) (g : ClassId × ClassId × ClassId) (o : Nat) (a0 : Nat) (f : Int → Int64) (tx : Int) (ty : Int) (ps : Int) (pt : Int) (sd : Int) (st9 : Int) (gr : Int) (hg : (0 ≤ tx ∧ tx ≤ 1000) ∧ (0 ≤ ty ∧ ty ≤ 1000) ∧ (0 ≤ ps ∧ ps ≤ 1000) ∧ (1 ≤ pt ∧ pt ≤ 1000) ∧ (1 ≤ sd ∧ sd ≤ 50)) (hgr : 0 ≤ gr ∧ gr ≤ 1000 ∧ -2000 ≤ st9 ∧ st9 ≤ 2000) : jMi l D g yX2_lastTouching wsX2_lastTouching 2 50 [.ref o, .int (jI st9), .int (jI gr)] [(o, .inr (2, [.ref a0, .int (jI tx), .int (jI ty), .int (jI ps), .int (jI pt), .int (jI sd)])), (a0, .inl (g.2.1, 50, .inr (.inl (aW f))))] (S := Unit) (fun z _ => z = min (sd - 1) ((st9 + gr - 1) / pt) ∧ -100000 ≤ z ∧ z ≤ 49) (fun _ => [(o, .inr (2, [.ref a0, .int (jI tx), .int (jI ty), .int (jI ps), .int (jI pt), .int (jI sd)])), (a0, .inl (g.2.1, 50, .inr (.inl (aW f))))]) := by
  refine jMi_of (cc := cX2_lastTouching) (maxL := 3) (by decide) rfl (Nat.le_of_ble_eq_true rfl) ?_
  intro p e s m args below meth c Q A hx hb hml hts hown hK hA hret ls hl hP hD
  have hS : va_S A s.heap s.heap [] := va_S.rf
  have hown : s.vm.findClass RX2 = some m.cls := hown
  have f31 := hts (.fieldLink RX2 31 "AntennaFill$Grid" "pitch" "I") (by decide +kernel)
  have f37 := hts (.fieldLink RX2 37 "AntennaFill$Grid" "side" "I") (by decide +kernel)
  have inX2 : ∀ w ∈ wsX20, w ∈ wsX2_lastTouching := by decide +kernel
  have m34 := hts (.methodLink RX2 34 Lib.Math.min.name) (by decide +kernel)
  have s34 := hts (.static Lib.Math.min.name) (by decide +kernel)
  have c34 := hts (.code Lib.Math.min.name Lib.Math.min.code 2 (some .int)) (by decide +kernel)
  have iM := hts (.initialized "java/lang/Math") (by decide +kernel)
  have hl : lv_has ls 3 [(0, .ref o), (1, .int (jI st9)), (2, .int (jI gr))] := hl
  refine lv_aload_n hx hb dX2_lastTouching_0 rfl (lv_at hl 0 rfl) ?_
  refine va_get (D := D) (ci := 2) (v := .int (jI sd)) (C := RX2) (T := TX2) (N := 6) hx hb hts inX2 hown hK hP 0 rfl rfl 5 (by decide) f37 (fun _ h9 => h9) rfl dX2_lastTouching_1 ?_
  refine jv_iconst hx hb dX2_lastTouching_4 ?_
  refine jv_isub hx hb dX2_lastTouching_5 ?_
  refine lv_iload_n hx hb dX2_lastTouching_6 rfl (lv_at hl 1 rfl) ?_
  refine lv_iload_n hx hb dX2_lastTouching_7 rfl (lv_at hl 2 rfl) ?_
  refine jv_iadd hx hb dX2_lastTouching_8 ?_
  refine jv_iconst hx hb dX2_lastTouching_9 ?_
  refine jv_isub hx hb dX2_lastTouching_10 ?_
  refine lv_aload_n hx hb dX2_lastTouching_11 rfl (lv_at hl 0 rfl) ?_
  refine va_get (D := D) (ci := 2) (v := .int (jI pt)) (C := RX2) (T := TX2) (N := 6) hx hb hts inX2 hown hK hP 0 rfl rfl 4 (by decide) f31 (fun _ h9 => h9) rfl dX2_lastTouching_12 ?_
  refine jc_Si (As := [.int (jI ((st9 + gr) - 1)), .int (jI pt)]) (rest := [.int (jI (sd - 1))]) (wq := [(o, .inr (2, [.ref a0, .int (jI tx), .int (jI ty), .int (jI ps), .int (jI pt), .int (jI sd)])), (a0, .inl (g.2.1, 50, .inr (.inl (aW f))))]) ⟨hx, hb, hml, hown, hts⟩ (tJ9_floorDiv l D g ((st9 + gr) - 1) pt (⟨by omega, by omega⟩) (⟨by omega, by omega, by omega⟩)) (va_cwS 2 hts gX2_lastTouching_J9_floorDiv_7cf53 rfl rfl rfl (by decide +kernel) ⟨Nat.le_of_ble_eq_true rfl, Nat.le_of_ble_eq_true rfl⟩) hK hP hD hS hA [] [0, 1] rfl rfl (by decide) (by decide) (by decide) rfl rfl hl.1 (Nat.le_of_ble_eq_true rfl) dX2_lastTouching_15 ⟨Nat.le_refl 0, Nat.le_refl 0⟩ (fun z9 u H locs hu hP hD hS => ?_)
  have hu : z9 = ((st9 + gr) - 1) / pt := hu
  have hz9 := hu
  have hP : va_P D jcl [(o, .inr (2, [.ref a0, .int (jI tx), .int (jI ty), .int (jI ps), .int (jI pt), .int (jI sd)])), (a0, .inl (g.2.1, 50, .inr (.inl (aW f))))] H := hP
  have hD : va_D A [(o, .inr (2, [.ref a0, .int (jI tx), .int (jI ty), .int (jI ps), .int (jI pt), .int (jI sd)])), (a0, .inl (g.2.1, 50, .inr (.inl (aW f))))] := hD
  have hfb := fl_bd (a := (st9 + gr - 1)) (p := pt) (by omega) ⟨by omega, by omega⟩
  rw [← hz9] at hfb
  refine jv_min hx hb (hml.trans hl.1.symm) hown m34 s34 iM c34 (Nat.le_of_ble_eq_true rfl) (Nat.le_of_ble_eq_true rfl) (Nat.le_refl 0) (Nat.le_refl 0) ⟨by omega, by omega⟩ ⟨by omega, by omega⟩ dX2_lastTouching_18 (fun x_1 ex_1 => ?_)
  exact hret x_1 () _ _ _ _ (by rw [← hz9]; exact ⟨by omega, by omega, by omega⟩) (hP.sub [0, 1] rfl) (hD.sub [0, 1] (by decide) rfl) hS dX2_lastTouching_21

set_option maxHeartbeats 4000000 in
set_option maxRecDepth 100000 in
/-- Grid.open -/
theorem tX2_open (l : Launch) (D : va_G) (g : ClassId × ClassId × ClassId) (o : Nat) (a0 : Nat) (f : Int → Int64) (tx : Int) (ty : Int) (ps : Int) (pt : Int) (sd : Int) (qx : Int) (qy : Int) (qs : Int) (qp : Int) (hq : 0 ≤ qs ∧ qs ≤ 200 ∧ 0 ≤ qp ∧ qp ≤ 1000) : jMv l D g yX2_open wsX2_open 1 26 [.ref o, .int (jI qx), .int (jI qy), .int (jI qs), .int (jI qp)] [(o, .inr (2, [.ref a0, .int (jI tx), .int (jI ty), .int (jI ps), .int (jI pt), .int (jI sd)])), (a0, .inl (g.2.1, 50, .inr (.inl (aW f))))] (S := (Int → Int64)) (fun u => ∀ j, 0 ≤ j → j < 50 → u j = jL 0) (fun u => [(o, .inr (2, [.ref a0, .int (jI qx), .int (jI qy), .int (jI qs), .int (jI (max 1 qp)), .int (jI (min 50 ((200 - qs) / (max 1 qp) + 1)))])), (a0, .inl (g.2.1, 50, .inr (.inl (aW u))))]) := by
  refine jMv_of (cc := cX2_open) (maxL := 6) (by decide) rfl (Nat.le_of_ble_eq_true rfl) ?_
  intro p e s m args below meth c Q A hx hb hml hts hown hK hA hret ls hl hP hD
  have hS : va_S A s.heap s.heap [] := va_S.rf
  have hown : s.vm.findClass RX2 = some m.cls := hown
  have f11 := hts (.fieldLink RX2 11 "AntennaFill$Grid" "closed" "[J") (by decide +kernel)
  have f15 := hts (.fieldLink RX2 15 "AntennaFill$Grid" "tileX" "I") (by decide +kernel)
  have f19 := hts (.fieldLink RX2 19 "AntennaFill$Grid" "tileY" "I") (by decide +kernel)
  have f22 := hts (.fieldLink RX2 22 "AntennaFill$Grid" "pieceSize" "I") (by decide +kernel)
  have f31 := hts (.fieldLink RX2 31 "AntennaFill$Grid" "pitch" "I") (by decide +kernel)
  have f37 := hts (.fieldLink RX2 37 "AntennaFill$Grid" "side" "I") (by decide +kernel)
  have inX2 : ∀ w ∈ wsX20, w ∈ wsX2_open := by decide +kernel
  have m25 := hts (.methodLink RX2 25 Lib.Math.max.name) (by decide +kernel)
  have s25 := hts (.static Lib.Math.max.name) (by decide +kernel)
  have c25 := hts (.code Lib.Math.max.name Lib.Math.max.code 2 (some .int)) (by decide +kernel)
  have m34 := hts (.methodLink RX2 34 Lib.Math.min.name) (by decide +kernel)
  have s34 := hts (.static Lib.Math.min.name) (by decide +kernel)
  have c34 := hts (.code Lib.Math.min.name Lib.Math.min.code 2 (some .int)) (by decide +kernel)
  have iM := hts (.initialized "java/lang/Math") (by decide +kernel)
  have hl : lv_has ls 6 [(0, .ref o), (1, .int (jI qx)), (2, .int (jI qy)), (3, .int (jI qs)), (4, .int (jI qp))] := hl
  refine lv_aload_n hx hb dX2_open_0 rfl (lv_at hl 0 rfl) ?_
  refine lv_iload_n hx hb dX2_open_1 rfl (lv_at hl 1 rfl) ?_
  refine va_put (D := D) (ci := 2) (v := .int (jI qx)) (ty := .int) (C := RX2) (T := TX2) (N := 6) hx hb hts inX2 tyX2 tyX2_ok nmX2 hown hK hP hD hS 0 rfl rfl 1 (by decide) f15 (fun _ h9 => h9) rfl (by decide +kernel) rfl rfl (Nat.le_of_ble_eq_true rfl) dX2_open_2 (fun H locs hP hD hS => ?_)
  have hP : va_P D jcl [(o, .inr (2, [.ref a0, .int (jI qx), .int (jI ty), .int (jI ps), .int (jI pt), .int (jI sd)])), (a0, .inl (g.2.1, 50, .inr (.inl (aW f))))] H := hP
  have hD : va_D A [(o, .inr (2, [.ref a0, .int (jI qx), .int (jI ty), .int (jI ps), .int (jI pt), .int (jI sd)])), (a0, .inl (g.2.1, 50, .inr (.inl (aW f))))] := hD
  refine lv_aload_n hx hb dX2_open_5 rfl (lv_at hl 0 rfl) ?_
  refine lv_iload_n hx hb dX2_open_6 rfl (lv_at hl 2 rfl) ?_
  refine va_put (D := D) (ci := 2) (v := .int (jI qy)) (ty := .int) (C := RX2) (T := TX2) (N := 6) hx hb hts inX2 tyX2 tyX2_ok nmX2 hown hK hP hD hS 0 rfl rfl 2 (by decide) f19 (fun _ h9 => h9) rfl (by decide +kernel) rfl rfl (Nat.le_of_ble_eq_true rfl) dX2_open_7 (fun H locs hP hD hS => ?_)
  have hP : va_P D jcl [(o, .inr (2, [.ref a0, .int (jI qx), .int (jI qy), .int (jI ps), .int (jI pt), .int (jI sd)])), (a0, .inl (g.2.1, 50, .inr (.inl (aW f))))] H := hP
  have hD : va_D A [(o, .inr (2, [.ref a0, .int (jI qx), .int (jI qy), .int (jI ps), .int (jI pt), .int (jI sd)])), (a0, .inl (g.2.1, 50, .inr (.inl (aW f))))] := hD
  refine lv_aload_n hx hb dX2_open_10 rfl (lv_at hl 0 rfl) ?_
  refine lv_iload_n hx hb dX2_open_11 rfl (lv_at hl 3 rfl) ?_
  refine va_put (D := D) (ci := 2) (v := .int (jI qs)) (ty := .int) (C := RX2) (T := TX2) (N := 6) hx hb hts inX2 tyX2 tyX2_ok nmX2 hown hK hP hD hS 0 rfl rfl 3 (by decide) f22 (fun _ h9 => h9) rfl (by decide +kernel) rfl rfl (Nat.le_of_ble_eq_true rfl) dX2_open_12 (fun H locs hP hD hS => ?_)
  have hP : va_P D jcl [(o, .inr (2, [.ref a0, .int (jI qx), .int (jI qy), .int (jI qs), .int (jI pt), .int (jI sd)])), (a0, .inl (g.2.1, 50, .inr (.inl (aW f))))] H := hP
  have hD : va_D A [(o, .inr (2, [.ref a0, .int (jI qx), .int (jI qy), .int (jI qs), .int (jI pt), .int (jI sd)])), (a0, .inl (g.2.1, 50, .inr (.inl (aW f))))] := hD
  refine lv_aload_n hx hb dX2_open_15 rfl (lv_at hl 0 rfl) ?_
  refine jv_iconst hx hb dX2_open_16 ?_
  refine lv_iload hx hb dX2_open_17 (lv_at hl 4 rfl) ?_
  refine jv_max hx hb (hml.trans hl.1.symm) hown m25 s25 iM c25 (Nat.le_of_ble_eq_true rfl) (Nat.le_of_ble_eq_true rfl) (Nat.le_refl 0) (Nat.le_refl 0) ⟨by decide, by decide⟩ ⟨by omega, by omega⟩ dX2_open_19 (fun mp emp => ?_)
  refine va_put (D := D) (ci := 2) (v := .int (jI mp)) (ty := .int) (C := RX2) (T := TX2) (N := 6) hx hb hts inX2 tyX2 tyX2_ok nmX2 hown hK hP hD hS 0 rfl rfl 4 (by decide) f31 (fun _ h9 => h9) rfl (by decide +kernel) rfl rfl (Nat.le_of_ble_eq_true rfl) dX2_open_22 (fun H locs hP hD hS => ?_)
  have hP : va_P D jcl [(o, .inr (2, [.ref a0, .int (jI qx), .int (jI qy), .int (jI qs), .int (jI mp), .int (jI sd)])), (a0, .inl (g.2.1, 50, .inr (.inl (aW f))))] H := hP
  have hD : va_D A [(o, .inr (2, [.ref a0, .int (jI qx), .int (jI qy), .int (jI qs), .int (jI mp), .int (jI sd)])), (a0, .inl (g.2.1, 50, .inr (.inl (aW f))))] := hD
  refine lv_aload_n hx hb dX2_open_25 rfl (lv_at hl 0 rfl) ?_
  refine jv_bipush hx hb (by decide) dX2_open_26 ?_
  refine jv_sipush hx hb (by decide) dX2_open_28 ?_
  refine lv_iload_n hx hb dX2_open_31 rfl (lv_at hl 3 rfl) ?_
  refine jv_isub hx hb dX2_open_32 ?_
  refine lv_aload_n hx hb dX2_open_33 rfl (lv_at hl 0 rfl) ?_
  refine va_get (D := D) (ci := 2) (v := .int (jI mp)) (C := RX2) (T := TX2) (N := 6) hx hb hts inX2 hown hK hP 0 rfl rfl 4 (by decide) f31 (fun _ h9 => h9) rfl dX2_open_34 ?_
  have hdd := Int.ediv_nonneg (a := 200 - qs) (b := mp) (by omega) (by omega)
  have hdl := Int.ediv_le_self (a := 200 - qs) mp (by omega)
  refine jv_idivN hx hb ⟨by omega, by omega, by omega⟩ ⟨by omega, by omega, by omega⟩ dX2_open_37 ?_
  refine jv_iconst hx hb dX2_open_38 ?_
  refine jv_iadd hx hb dX2_open_39 ?_
  refine jv_min hx hb (hml.trans hl.1.symm) hown m34 s34 iM c34 (Nat.le_of_ble_eq_true rfl) (Nat.le_of_ble_eq_true rfl) (Nat.le_refl 0) (Nat.le_refl 0) ⟨by decide, by decide⟩ ⟨by omega, by omega⟩ dX2_open_40 (fun ms ems => ?_)
  refine va_put (D := D) (ci := 2) (v := .int (jI ms)) (ty := .int) (C := RX2) (T := TX2) (N := 6) hx hb hts inX2 tyX2 tyX2_ok nmX2 hown hK hP hD hS 0 rfl rfl 5 (by decide) f37 (fun _ h9 => h9) rfl (by decide +kernel) rfl rfl (Nat.le_of_ble_eq_true rfl) dX2_open_43 (fun H locs hP hD hS => ?_)
  have hP : va_P D jcl [(o, .inr (2, [.ref a0, .int (jI qx), .int (jI qy), .int (jI qs), .int (jI mp), .int (jI ms)])), (a0, .inl (g.2.1, 50, .inr (.inl (aW f))))] H := hP
  have hD : va_D A [(o, .inr (2, [.ref a0, .int (jI qx), .int (jI qy), .int (jI qs), .int (jI mp), .int (jI ms)])), (a0, .inl (g.2.1, 50, .inr (.inl (aW f))))] := hD
  have L49 : ∀ (fuel : Nat) (i : Int) (f' : Int → Int64), (0 ≤ i ∧ i ≤ 50) → (∀ k, 0 ≤ k → k < i → f' k = jL 0) → ((50 : Int) - i < (fuel : Int)) → ∀ (H : Heap) (locs : List Loc) (ls : Array Slot), va_P D jcl [(o, .inr (2, [.ref a0, .int (jI qx), .int (jI qy), .int (jI qs), .int (jI mp), .int (jI ms)])), (a0, .inl (g.2.1, 50, .inr (.inl (aW f'))))] H → va_D A [(o, .inr (2, [.ref a0, .int (jI qx), .int (jI qy), .int (jI qs), .int (jI mp), .int (jI ms)])), (a0, .inl (g.2.1, 50, .inr (.inl (aW f'))))] → va_S A s.heap H locs → lv_has ls 6 [(0, .ref o), (5, .int (jI i))] → W p l e (jR 1 26) s m args below meth c H locs 0 0 Q (F0 m 49 ls []) := by
    intro fuel
    induction fuel with
    | zero =>
      intro i f' hi h1 hfu
      exfalso; omega
    | succ fuel ihL49 =>
      intro i f' hi h1 hfu H locs ls hP hD hS hl
      refine lv_iload hx hb dX2_open_49 (lv_at hl 1 rfl) ?_
      refine jv_bipush hx hb (by decide) dX2_open_51 ?_
      refine jv_icmp_ge (tgt := 70) hx hb ⟨by omega, by omega⟩ ⟨by decide, by decide⟩ dX2_open_53 (by decide) (fun c53 => ?_) (fun c53 => ?_)
      · skip
        have ems9 : ms = min 50 ((200 - qs) / (max 1 qp) + 1) := by rw [ems, emp]
        subst ems9
        subst emp
        exact hret  f' _ _ _ _ (fun j q1 q2 => h1 j q1 (by omega)) (hP.sub [0, 1] rfl) (hD.sub [0, 1] (by decide) rfl) hS dX2_open_70
      · skip
        refine lv_aload_n hx hb dX2_open_56 rfl (lv_at hl 0 rfl) ?_
        refine va_get (D := D) (ci := 2) (v := .ref a0) (C := RX2) (T := TX2) (N := 6) hx hb hts inX2 hown hK hP 0 rfl rfl 0 (by decide) f11 (fun _ h9 => h9) rfl dX2_open_57 ?_
        refine lv_iload hx hb dX2_open_60 (lv_at hl 1 rfl) ?_
        refine jv_lconst0 hx hb dX2_open_62 ?_
        refine jv_wast hx hb hK hP hD hS 1 1 rfl rfl (i := i) (x := (jL 0)) ⟨by omega, by omega⟩ (Nat.le_of_ble_eq_true rfl) dX2_open_63 (fun H locs hP hD hS => ?_)
        have hP : va_P D jcl [(o, .inr (2, [.ref a0, .int (jI qx), .int (jI qy), .int (jI qs), .int (jI mp), .int (jI ms)])), (a0, .inl (g.2.1, 50, .inr (.inl (aW (upW f' i (jL 0))))))] H := hP
        have hD : va_D A [(o, .inr (2, [.ref a0, .int (jI qx), .int (jI qy), .int (jI qs), .int (jI mp), .int (jI ms)])), (a0, .inl (g.2.1, 50, .inr (.inl (aW (upW f' i (jL 0))))))] := hD
        refine jv_iinc (lv2 := [(5, .int (jI (i + 1))), (0, .ref o)]) hx hb dX2_open_64 hl (k := 1) rfl (by decide) rfl (fun ls hl => ?_)
        refine lv_goto (tgt := 49) hx hb dX2_open_67 (by decide) ?_
        exact ihL49 (i + 1) (upW f' i (jL 0)) (by omega) (fun x q1 q2 => by
          by_cases q3 : x = i
          · rw [q3, upW_eq]
          · rw [upW_ne _ _ q3]; exact h1 x q1 (by omega)) (by omega) _ _ _ (hP.sub [0, 1] rfl) (hD.sub [0, 1] (by decide) rfl) hS (lv_sub hl [1, 0] rfl)
  refine jv_iconst hx hb dX2_open_46 ?_
  refine lv_istore (lv' := [(5, .int (jI 0)), (0, .ref o), (1, .int (jI qx)), (2, .int (jI qy)), (3, .int (jI qs)), (4, .int (jI qp))]) hx hb dX2_open_47 hl (by decide) rfl (fun ls hl => ?_)
  exact L49 (((50 : Int) - 0).toNat + 1) 0 f (by omega) (fun k _ _ => by omega) (by omega) _ _ _ (hP.sub [0, 1] rfl) (hD.sub [0, 1] (by decide) rfl) hS (lv_sub hl [1, 0] rfl)

set_option maxHeartbeats 4000000 in
set_option maxRecDepth 100000 in
/-- Grid.closeAround -/
theorem tX2_closeAround (l : Launch) (D : va_G) (g : ClassId × ClassId × ClassId) (o : Nat) (a0 : Nat) (f : Int → Int64) (tx : Int) (ty : Int) (ps : Int) (pt : Int) (sd : Int) (B : Int → Int → Bool) (b : Nat) (b0 : Nat) (b1 : Nat) (b2 : Nat) (b3 : Nat) (b4 : Nat) (b5 : Nat) (nb : Nat) (fn : Int → Int) (fl : Int → Int) (fx : Int → Int) (fy : Int → Int) (fu : Int → Int) (fv : Int → Int) (bz : Int) (L : List jQ) (lw : Int) (gr : Int) (hg : (0 ≤ tx ∧ tx ≤ 1000) ∧ (0 ≤ ty ∧ ty ≤ 1000) ∧ (0 ≤ ps ∧ ps ≤ 1000) ∧ (1 ≤ pt ∧ pt ≤ 1000) ∧ (1 ≤ sd ∧ sd ≤ 50)) (hgr : 0 ≤ gr ∧ gr ≤ 1000) (hlw : rI lw) (hnb : nb < 2147483648 ∧ bz ≤ (nb : Int)) (hB : bx fn fl fx fy fu fv bz L) (hgi : grI f sd B) : jMv l D g yX2_closeAround wsX2_closeAround 3 85 [.ref o, .ref b, .int (jI lw), .int (jI gr)] [(o, .inr (2, [.ref a0, .int (jI tx), .int (jI ty), .int (jI ps), .int (jI pt), .int (jI sd)])), (a0, .inl (g.2.1, 50, .inr (.inl (aW f)))), (b, .inr (0, [.ref b0, .ref b1, .ref b2, .ref b3, .ref b4, .ref b5, .int (jI bz)])), (b0, .inl (g.1, nb, .inl (aI fn))), (b1, .inl (g.1, nb, .inl (aI fl))), (b2, .inl (g.1, nb, .inl (aI fx))), (b3, .inl (g.1, nb, .inl (aI fy))), (b4, .inl (g.1, nb, .inl (aI fu))), (b5, .inl (g.1, nb, .inl (aI fv)))] (S := (Int → Int64)) (fun u => grI u sd (fun u9 v9 => B u9 v9 || gta tx ty ps pt gr (L.filter (onL lw)) u9 v9)) (fun u => [(o, .inr (2, [.ref a0, .int (jI tx), .int (jI ty), .int (jI ps), .int (jI pt), .int (jI sd)])), (a0, .inl (g.2.1, 50, .inr (.inl (aW u)))), (b, .inr (0, [.ref b0, .ref b1, .ref b2, .ref b3, .ref b4, .ref b5, .int (jI bz)])), (b0, .inl (g.1, nb, .inl (aI fn))), (b1, .inl (g.1, nb, .inl (aI fl))), (b2, .inl (g.1, nb, .inl (aI fx))), (b3, .inl (g.1, nb, .inl (aI fy))), (b4, .inl (g.1, nb, .inl (aI fu))), (b5, .inl (g.1, nb, .inl (aI fv)))]) := by
  refine jMv_of (cc := cX2_closeAround) (maxL := 11) (by decide) rfl (Nat.le_of_ble_eq_true rfl) ?_
  intro p e s m args below meth c Q A hx hb hml hts hown hK hA hret ls hl hP hD
  have hS : va_S A s.heap s.heap [] := va_S.rf
  have hown : s.vm.findClass RX2 = some m.cls := hown
  have f11 := hts (.fieldLink RX2 11 "AntennaFill$Grid" "closed" "[J") (by decide +kernel)
  have f15 := hts (.fieldLink RX2 15 "AntennaFill$Grid" "tileX" "I") (by decide +kernel)
  have f19 := hts (.fieldLink RX2 19 "AntennaFill$Grid" "tileY" "I") (by decide +kernel)
  have f40 := hts (.fieldLink RX2 40 "AntennaFill$Boxes" "size" "I") (by decide +kernel)
  have f45 := hts (.fieldLink RX2 45 "AntennaFill$Boxes" "layer" "[I") (by decide +kernel)
  have f49 := hts (.fieldLink RX2 49 "AntennaFill$Boxes" "x0" "[I") (by decide +kernel)
  have f55 := hts (.fieldLink RX2 55 "AntennaFill$Boxes" "x1" "[I") (by decide +kernel)
  have f61 := hts (.fieldLink RX2 61 "AntennaFill$Boxes" "y1" "[I") (by decide +kernel)
  have f66 := hts (.fieldLink RX2 66 "AntennaFill$Boxes" "y0" "[I") (by decide +kernel)
  have inX0 : ∀ w ∈ wsX00, w ∈ wsX2_closeAround := by decide +kernel
  have inX2 : ∀ w ∈ wsX20, w ∈ wsX2_closeAround := by decide +kernel
  have k64 := hts (.constantLong RX2 64 (-1)) (by decide +kernel)
  have hl : lv_has ls 11 [(0, .ref o), (1, .ref b), (2, .int (jI lw)), (3, .int (jI gr))] := hl
  have hlen := hB.1
  have LO : ∀ (fuel : Nat) (i : Int) (f' : Int → Int64), (0 ≤ i ∧ i ≤ bz) → (grI f' sd (fun u9 v9 => B u9 v9 || gta tx ty ps pt gr ((pre L i).filter (onL lw)) u9 v9)) → (bz - i < (fuel : Int)) → ∀ (H : Heap) (locs : List Loc) (ls : Array Slot), va_P D jcl [(o, .inr (2, [.ref a0, .int (jI tx), .int (jI ty), .int (jI ps), .int (jI pt), .int (jI sd)])), (a0, .inl (g.2.1, 50, .inr (.inl (aW f')))), (b, .inr (0, [.ref b0, .ref b1, .ref b2, .ref b3, .ref b4, .ref b5, .int (jI bz)])), (b0, .inl (g.1, nb, .inl (aI fn))), (b1, .inl (g.1, nb, .inl (aI fl))), (b2, .inl (g.1, nb, .inl (aI fx))), (b3, .inl (g.1, nb, .inl (aI fy))), (b4, .inl (g.1, nb, .inl (aI fu))), (b5, .inl (g.1, nb, .inl (aI fv)))] H → va_D A [(o, .inr (2, [.ref a0, .int (jI tx), .int (jI ty), .int (jI ps), .int (jI pt), .int (jI sd)])), (a0, .inl (g.2.1, 50, .inr (.inl (aW f')))), (b, .inr (0, [.ref b0, .ref b1, .ref b2, .ref b3, .ref b4, .ref b5, .int (jI bz)])), (b0, .inl (g.1, nb, .inl (aI fn))), (b1, .inl (g.1, nb, .inl (aI fl))), (b2, .inl (g.1, nb, .inl (aI fx))), (b3, .inl (g.1, nb, .inl (aI fy))), (b4, .inl (g.1, nb, .inl (aI fu))), (b5, .inl (g.1, nb, .inl (aI fv)))] → va_S A s.heap H locs → lv_has ls 11 [(0, .ref o), (1, .ref b), (2, .int (jI lw)), (3, .int (jI gr)), (4, .int (jI i))] → W p l e (jR 3 85) s m args below meth c H locs 0 0 Q (F0 m 3 ls []) := by
    intro fuel
    induction fuel with
    | zero =>
      intro i f' hi h1 hfu
      exfalso; omega
    | succ fuel ihLO =>
      intro i f' hi h1 hfu H locs ls hP hD hS hl
      refine lv_iload hx hb dX2_closeAround_3 (lv_at hl 4 rfl) ?_
      refine lv_aload_n hx hb dX2_closeAround_5 rfl (lv_at hl 1 rfl) ?_
      refine va_get (D := D) (ci := 0) (v := .int (jI bz)) (C := RX0) (T := TX0) (N := 7) hx hb hts inX0 hown hK hP 2 rfl rfl 6 (by decide) f40 (fun _ h9 => h9) rfl dX2_closeAround_6 ?_
      refine jv_icmp_ge (tgt := 155) hx hb ⟨by omega, by omega⟩ ⟨by omega, by omega⟩ dX2_closeAround_9 (by decide) (fun c9 => ?_) (fun c9 => ?_)
      · skip
        exact hret  f' _ _ _ _ (by rw [← pre_all (L := L) (i := i) (by omega)]; exact h1) (hP.sub [0, 1, 2, 3, 4, 5, 6, 7, 8] rfl) (hD.sub [0, 1, 2, 3, 4, 5, 6, 7, 8] (by decide) rfl) hS dX2_closeAround_155
      · skip
        obtain ⟨q, hq, hm, e0, e1, e2, e3, e4, e5, hok⟩ := bx_at hB (k := i) ⟨hi.1, by omega⟩
        have hok2 := hok
        unfold okQ at hok
        have hab : ∀ i9 j9 : Int, ((B i9 j9 || gta tx ty ps pt gr ((pre L i).filter (onL lw)) i9 j9) || gtc tx ty ps pt gr q i9 j9) = (B i9 j9 || gta tx ty ps pt gr ((pre L i).filter (onL lw) ++ [q]) i9 j9) := fun i9 j9 => by rw [gta_app, gta_one, Bool.or_assoc]
        refine lv_aload_n hx hb dX2_closeAround_12 rfl (lv_at hl 1 rfl) ?_
        refine va_get (D := D) (ci := 0) (v := .ref b1) (C := RX0) (T := TX0) (N := 7) hx hb hts inX0 hown hK hP 2 rfl rfl 1 (by decide) f45 (fun _ h9 => h9) rfl dX2_closeAround_13 ?_
        refine lv_iload hx hb dX2_closeAround_16 (lv_at hl 4 rfl) ?_
        refine jv_iald hx hb hK hP 4 0 rfl rfl (i := i) ⟨by omega, by omega⟩ hnb.1 dX2_closeAround_18 ?_
        refine lv_iload_n hx hb dX2_closeAround_19 rfl (lv_at hl 2 rfl) ?_
        refine jv_icmp_ne (tgt := 149) hx hb ⟨by omega, by omega⟩ ⟨by omega, by omega⟩ dX2_closeAround_20 (by decide) (fun c20 => ?_) (fun c20 => ?_)
        · skip
          refine jv_iinc (lv2 := [(4, .int (jI (i + 1))), (0, .ref o), (1, .ref b), (2, .int (jI lw)), (3, .int (jI gr))]) hx hb dX2_closeAround_149 hl (k := 4) rfl (by decide) rfl (fun ls hl => ?_)
          refine lv_goto (tgt := 3) hx hb dX2_closeAround_152 (by decide) ?_
          exact ihLO (i + 1) f' (by omega) (by
            first
            | (rw [flt_n _ hi.1 hq (onL_f (by omega))]; exact h1)
            | (rw [flt_s _ hi.1 hq (onL_t (by omega))]; exact grI_c (grI_n h1 (by omega) e91 e92 (by omega)) hab)
            | (rw [flt_s _ hi.1 hq (onL_t (by omega))]; exact grI_c (grI_s h1 h2 (by omega) (by omega) e91 e92 e93 e94 (by omega)) hab)) (by omega) _ _ _ (hP.sub [0, 1, 2, 3, 4, 5, 6, 7, 8] rfl) (hD.sub [0, 1, 2, 3, 4, 5, 6, 7, 8] (by decide) rfl) hS (lv_sub hl [1, 2, 3, 4, 0] rfl)
        · skip
          refine lv_aload_n hx hb dX2_closeAround_23 rfl (lv_at hl 0 rfl) ?_
          refine lv_aload_n hx hb dX2_closeAround_24 rfl (lv_at hl 1 rfl) ?_
          refine va_get (D := D) (ci := 0) (v := .ref b2) (C := RX0) (T := TX0) (N := 7) hx hb hts inX0 hown hK hP 2 rfl rfl 2 (by decide) f49 (fun _ h9 => h9) rfl dX2_closeAround_25 ?_
          refine lv_iload hx hb dX2_closeAround_28 (lv_at hl 4 rfl) ?_
          refine jv_iald hx hb hK hP 5 0 rfl rfl (i := i) ⟨by omega, by omega⟩ hnb.1 dX2_closeAround_30 ?_
          refine lv_aload_n hx hb dX2_closeAround_31 rfl (lv_at hl 0 rfl) ?_
          refine va_get (D := D) (ci := 2) (v := .int (jI tx)) (C := RX2) (T := TX2) (N := 6) hx hb hts inX2 hown hK hP 0 rfl rfl 1 (by decide) f15 (fun _ h9 => h9) rfl dX2_closeAround_32 ?_
          refine jv_isub hx hb dX2_closeAround_35 ?_
          refine lv_iload_n hx hb dX2_closeAround_36 rfl (lv_at hl 3 rfl) ?_
          refine jc_Vi (As := [.int (jI ((fx i) - tx)), .int (jI gr)]) (rest := []) (wq := [(b, .inr (0, [.ref b0, .ref b1, .ref b2, .ref b3, .ref b4, .ref b5, .int (jI bz)])), (b0, .inl (g.1, nb, .inl (aI fn))), (b1, .inl (g.1, nb, .inl (aI fl))), (b2, .inl (g.1, nb, .inl (aI fx))), (b3, .inl (g.1, nb, .inl (aI fy))), (b4, .inl (g.1, nb, .inl (aI fu))), (b5, .inl (g.1, nb, .inl (aI fv)))]) ⟨hx, hb, hml, hown, hts⟩ (tX2_firstTouching l D g o a0 f' tx ty ps pt sd ((fx i) - tx) gr (hg) (by omega)) (cwV 2 hts gX2_closeAround_X2_firstTouching rfl rfl rfl (by decide +kernel) ⟨Nat.le_of_ble_eq_true rfl, Nat.le_of_ble_eq_true rfl⟩) hK hP hD hS hA [0, 1] [2, 3, 4, 5, 6, 7, 8] rfl rfl (by decide) (by decide) (by decide) (va_recv hK hP (ci := 2) (q0 := 0) rfl rfl) rfl rfl hl.1 (Nat.le_of_ble_eq_true rfl) dX2_closeAround_37 ⟨Nat.le_refl 0, Nat.le_refl 0⟩ (fun fr9 u H locs hu hP hD hS => ?_)
          have hu : fr9 = max 0 ((((fx i) - tx) - gr - ps) / pt + 1) ∧ 0 ≤ fr9 ∧ fr9 ≤ 100001 := hu
          obtain ⟨hfr, hfr1, hfr2⟩ := hu
          have hP : va_P D jcl [(b, .inr (0, [.ref b0, .ref b1, .ref b2, .ref b3, .ref b4, .ref b5, .int (jI bz)])), (b0, .inl (g.1, nb, .inl (aI fn))), (b1, .inl (g.1, nb, .inl (aI fl))), (b2, .inl (g.1, nb, .inl (aI fx))), (b3, .inl (g.1, nb, .inl (aI fy))), (b4, .inl (g.1, nb, .inl (aI fu))), (b5, .inl (g.1, nb, .inl (aI fv))), (o, .inr (2, [.ref a0, .int (jI tx), .int (jI ty), .int (jI ps), .int (jI pt), .int (jI sd)])), (a0, .inl (g.2.1, 50, .inr (.inl (aW f'))))] H := hP
          have hD : va_D A [(b, .inr (0, [.ref b0, .ref b1, .ref b2, .ref b3, .ref b4, .ref b5, .int (jI bz)])), (b0, .inl (g.1, nb, .inl (aI fn))), (b1, .inl (g.1, nb, .inl (aI fl))), (b2, .inl (g.1, nb, .inl (aI fx))), (b3, .inl (g.1, nb, .inl (aI fy))), (b4, .inl (g.1, nb, .inl (aI fu))), (b5, .inl (g.1, nb, .inl (aI fv))), (o, .inr (2, [.ref a0, .int (jI tx), .int (jI ty), .int (jI ps), .int (jI pt), .int (jI sd)])), (a0, .inl (g.2.1, 50, .inr (.inl (aW f'))))] := hD
          refine lv_istore (lv' := [(5, .int (jI fr9)), (0, .ref o), (1, .ref b), (2, .int (jI lw)), (3, .int (jI gr)), (4, .int (jI i))]) hx hb dX2_closeAround_40 hl (by decide) rfl (fun ls hl => ?_)
          refine lv_aload_n hx hb dX2_closeAround_42 rfl (lv_at hl 1 rfl) ?_
          refine lv_aload_n hx hb dX2_closeAround_43 rfl (lv_at hl 2 rfl) ?_
          refine va_get (D := D) (ci := 0) (v := .ref b4) (C := RX0) (T := TX0) (N := 7) hx hb hts inX0 hown hK hP 0 rfl rfl 4 (by decide) f55 (fun _ h9 => h9) rfl dX2_closeAround_44 ?_
          refine lv_iload hx hb dX2_closeAround_47 (lv_at hl 5 rfl) ?_
          refine jv_iald hx hb hK hP 5 0 rfl rfl (i := i) ⟨by omega, by omega⟩ hnb.1 dX2_closeAround_49 ?_
          refine lv_aload_n hx hb dX2_closeAround_50 rfl (lv_at hl 1 rfl) ?_
          refine va_get (D := D) (ci := 2) (v := .int (jI tx)) (C := RX2) (T := TX2) (N := 6) hx hb hts inX2 hown hK hP 7 rfl rfl 1 (by decide) f15 (fun _ h9 => h9) rfl dX2_closeAround_51 ?_
          refine jv_isub hx hb dX2_closeAround_54 ?_
          refine lv_iload_n hx hb dX2_closeAround_55 rfl (lv_at hl 4 rfl) ?_
          refine jc_Vi (As := [.int (jI ((fu i) - tx)), .int (jI gr)]) (rest := []) (wq := [(b, .inr (0, [.ref b0, .ref b1, .ref b2, .ref b3, .ref b4, .ref b5, .int (jI bz)])), (b0, .inl (g.1, nb, .inl (aI fn))), (b1, .inl (g.1, nb, .inl (aI fl))), (b2, .inl (g.1, nb, .inl (aI fx))), (b3, .inl (g.1, nb, .inl (aI fy))), (b4, .inl (g.1, nb, .inl (aI fu))), (b5, .inl (g.1, nb, .inl (aI fv)))]) ⟨hx, hb, hml, hown, hts⟩ (tX2_lastTouching l D g o a0 f' tx ty ps pt sd ((fu i) - tx) gr (hg) (by omega)) (cwV 2 hts gX2_closeAround_X2_lastTouching rfl rfl rfl (by decide +kernel) ⟨Nat.le_of_ble_eq_true rfl, Nat.le_of_ble_eq_true rfl⟩) hK hP hD hS hA [7, 8] [0, 1, 2, 3, 4, 5, 6] rfl rfl (by decide) (by decide) (by decide) (va_recv hK hP (ci := 2) (q0 := 7) rfl rfl) rfl rfl hl.1 (Nat.le_of_ble_eq_true rfl) dX2_closeAround_56 ⟨Nat.le_refl 0, Nat.le_refl 0⟩ (fun to9 u H locs hu hP hD hS => ?_)
          have hu : to9 = min (sd - 1) ((((fu i) - tx) + gr - 1) / pt) ∧ -100000 ≤ to9 ∧ to9 ≤ 49 := hu
          obtain ⟨hto, hto1, hto2⟩ := hu
          have hP : va_P D jcl [(b, .inr (0, [.ref b0, .ref b1, .ref b2, .ref b3, .ref b4, .ref b5, .int (jI bz)])), (b0, .inl (g.1, nb, .inl (aI fn))), (b1, .inl (g.1, nb, .inl (aI fl))), (b2, .inl (g.1, nb, .inl (aI fx))), (b3, .inl (g.1, nb, .inl (aI fy))), (b4, .inl (g.1, nb, .inl (aI fu))), (b5, .inl (g.1, nb, .inl (aI fv))), (o, .inr (2, [.ref a0, .int (jI tx), .int (jI ty), .int (jI ps), .int (jI pt), .int (jI sd)])), (a0, .inl (g.2.1, 50, .inr (.inl (aW f'))))] H := hP
          have hD : va_D A [(b, .inr (0, [.ref b0, .ref b1, .ref b2, .ref b3, .ref b4, .ref b5, .int (jI bz)])), (b0, .inl (g.1, nb, .inl (aI fn))), (b1, .inl (g.1, nb, .inl (aI fl))), (b2, .inl (g.1, nb, .inl (aI fx))), (b3, .inl (g.1, nb, .inl (aI fy))), (b4, .inl (g.1, nb, .inl (aI fu))), (b5, .inl (g.1, nb, .inl (aI fv))), (o, .inr (2, [.ref a0, .int (jI tx), .int (jI ty), .int (jI ps), .int (jI pt), .int (jI sd)])), (a0, .inl (g.2.1, 50, .inr (.inl (aW f'))))] := hD
          refine lv_istore (lv' := [(6, .int (jI to9)), (5, .int (jI fr9)), (0, .ref o), (1, .ref b), (2, .int (jI lw)), (3, .int (jI gr)), (4, .int (jI i))]) hx hb dX2_closeAround_59 hl (by decide) rfl (fun ls hl => ?_)
          refine lv_aload_n hx hb dX2_closeAround_61 rfl (lv_at hl 2 rfl) ?_
          refine lv_aload_n hx hb dX2_closeAround_62 rfl (lv_at hl 3 rfl) ?_
          refine va_get (D := D) (ci := 0) (v := .ref b5) (C := RX0) (T := TX0) (N := 7) hx hb hts inX0 hown hK hP 0 rfl rfl 5 (by decide) f61 (fun _ h9 => h9) rfl dX2_closeAround_63 ?_
          refine lv_iload hx hb dX2_closeAround_66 (lv_at hl 6 rfl) ?_
          refine jv_iald hx hb hK hP 6 0 rfl rfl (i := i) ⟨by omega, by omega⟩ hnb.1 dX2_closeAround_68 ?_
          refine lv_aload_n hx hb dX2_closeAround_69 rfl (lv_at hl 2 rfl) ?_
          refine va_get (D := D) (ci := 2) (v := .int (jI ty)) (C := RX2) (T := TX2) (N := 6) hx hb hts inX2 hown hK hP 7 rfl rfl 2 (by decide) f19 (fun _ h9 => h9) rfl dX2_closeAround_70 ?_
          refine jv_isub hx hb dX2_closeAround_73 ?_
          refine lv_iload_n hx hb dX2_closeAround_74 rfl (lv_at hl 5 rfl) ?_
          refine jc_Vi (As := [.int (jI ((fv i) - ty)), .int (jI gr)]) (rest := []) (wq := [(b, .inr (0, [.ref b0, .ref b1, .ref b2, .ref b3, .ref b4, .ref b5, .int (jI bz)])), (b0, .inl (g.1, nb, .inl (aI fn))), (b1, .inl (g.1, nb, .inl (aI fl))), (b2, .inl (g.1, nb, .inl (aI fx))), (b3, .inl (g.1, nb, .inl (aI fy))), (b4, .inl (g.1, nb, .inl (aI fu))), (b5, .inl (g.1, nb, .inl (aI fv)))]) ⟨hx, hb, hml, hown, hts⟩ (tX2_lastTouching l D g o a0 f' tx ty ps pt sd ((fv i) - ty) gr (hg) (by omega)) (cwV 2 hts gX2_closeAround_X2_lastTouching rfl rfl rfl (by decide +kernel) ⟨Nat.le_of_ble_eq_true rfl, Nat.le_of_ble_eq_true rfl⟩) hK hP hD hS hA [7, 8] [0, 1, 2, 3, 4, 5, 6] rfl rfl (by decide) (by decide) (by decide) (va_recv hK hP (ci := 2) (q0 := 7) rfl rfl) rfl rfl hl.1 (Nat.le_of_ble_eq_true rfl) dX2_closeAround_75 ⟨Nat.le_refl 0, Nat.le_refl 0⟩ (fun jt9 u H locs hu hP hD hS => ?_)
          have hu : jt9 = min (sd - 1) ((((fv i) - ty) + gr - 1) / pt) ∧ -100000 ≤ jt9 ∧ jt9 ≤ 49 := hu
          obtain ⟨hjt, hjt1, hjt2⟩ := hu
          have hP : va_P D jcl [(b, .inr (0, [.ref b0, .ref b1, .ref b2, .ref b3, .ref b4, .ref b5, .int (jI bz)])), (b0, .inl (g.1, nb, .inl (aI fn))), (b1, .inl (g.1, nb, .inl (aI fl))), (b2, .inl (g.1, nb, .inl (aI fx))), (b3, .inl (g.1, nb, .inl (aI fy))), (b4, .inl (g.1, nb, .inl (aI fu))), (b5, .inl (g.1, nb, .inl (aI fv))), (o, .inr (2, [.ref a0, .int (jI tx), .int (jI ty), .int (jI ps), .int (jI pt), .int (jI sd)])), (a0, .inl (g.2.1, 50, .inr (.inl (aW f'))))] H := hP
          have hD : va_D A [(b, .inr (0, [.ref b0, .ref b1, .ref b2, .ref b3, .ref b4, .ref b5, .int (jI bz)])), (b0, .inl (g.1, nb, .inl (aI fn))), (b1, .inl (g.1, nb, .inl (aI fl))), (b2, .inl (g.1, nb, .inl (aI fx))), (b3, .inl (g.1, nb, .inl (aI fy))), (b4, .inl (g.1, nb, .inl (aI fu))), (b5, .inl (g.1, nb, .inl (aI fv))), (o, .inr (2, [.ref a0, .int (jI tx), .int (jI ty), .int (jI ps), .int (jI pt), .int (jI sd)])), (a0, .inl (g.2.1, 50, .inr (.inl (aW f'))))] := hD
          refine lv_istore (lv' := [(7, .int (jI jt9)), (6, .int (jI to9)), (5, .int (jI fr9)), (0, .ref o), (1, .ref b), (2, .int (jI lw)), (3, .int (jI gr)), (4, .int (jI i))]) hx hb dX2_closeAround_78 hl (by decide) rfl (fun ls hl => ?_)
          have e91 : fr9 = max 0 ((q.2.2.1 - tx - gr - ps) / pt + 1) := by rw [hfr, e2]
          have e92 : to9 = min (sd - 1) ((q.2.2.2.2.1 - tx + gr - 1) / pt) := by rw [hto, e4]
          have e94 : jt9 = min (sd - 1) ((q.2.2.2.2.2 - ty + gr - 1) / pt) := by rw [hjt, e5]
          refine lv_iload hx hb dX2_closeAround_80 (lv_at hl 2 rfl) ?_
          refine lv_iload hx hb dX2_closeAround_82 (lv_at hl 1 rfl) ?_
          refine jv_icmp_gt (tgt := 149) hx hb ⟨by omega, by omega⟩ ⟨by omega, by omega⟩ dX2_closeAround_84 (by decide) (fun c84 => ?_) (fun c84 => ?_)
          · skip
            refine jv_iinc (lv2 := [(4, .int (jI (i + 1))), (7, .int (jI jt9)), (6, .int (jI to9)), (5, .int (jI fr9)), (0, .ref o), (1, .ref b), (2, .int (jI lw)), (3, .int (jI gr))]) hx hb dX2_closeAround_149 hl (k := 7) rfl (by decide) rfl (fun ls hl => ?_)
            refine lv_goto (tgt := 3) hx hb dX2_closeAround_152 (by decide) ?_
            exact ihLO (i + 1) f' (by omega) (by
              first
              | (rw [flt_n _ hi.1 hq (onL_f (by omega))]; exact h1)
              | (rw [flt_s _ hi.1 hq (onL_t (by omega))]; exact grI_c (grI_n h1 (by omega) e91 e92 (by omega)) hab)
              | (rw [flt_s _ hi.1 hq (onL_t (by omega))]; exact grI_c (grI_s h1 h2 (by omega) (by omega) e91 e92 e93 e94 (by omega)) hab)) (by omega) _ _ _ (hP.sub [7, 8, 0, 1, 2, 3, 4, 5, 6] rfl) (hD.sub [7, 8, 0, 1, 2, 3, 4, 5, 6] (by decide) rfl) hS (lv_sub hl [4, 5, 6, 7, 0] rfl)
          · skip
            refine jv_ldc2 (n := (-1)) hx hb (by decide) hown k64 dX2_closeAround_87 ?_
            refine lv_iload hx hb dX2_closeAround_90 (lv_at hl 2 rfl) ?_
            refine lv_lshl (v := (wSl (jL (-1)) fr9)) hx hb dX2_closeAround_92 rfl ?_
            refine jv_ldc2 (n := (-1)) hx hb (by decide) hown k64 dX2_closeAround_93 ?_
            refine jv_bipush hx hb (by decide) dX2_closeAround_96 ?_
            refine lv_iload hx hb dX2_closeAround_98 (lv_at hl 1 rfl) ?_
            refine jv_isub hx hb dX2_closeAround_100 ?_
            refine lv_lushr (v := (wSu (jL (-1)) (63 - to9))) hx hb dX2_closeAround_101 rfl ?_
            refine lv_land hx hb dX2_closeAround_102 ?_
            refine jw_nm (fun mm emm => ?_)
            refine lv_lstore (lv' := [(8, .long mm), (7, .int (jI jt9)), (6, .int (jI to9)), (5, .int (jI fr9)), (0, .ref o), (1, .ref b), (2, .int (jI lw)), (3, .int (jI gr)), (4, .int (jI i))]) hx hb dX2_closeAround_103 hl (by decide) rfl (fun ls hl => ?_)
            have hmm : ∀ b : Nat, b < 64 → wb mm b = decide (fr9 ≤ (b : Int) ∧ (b : Int) ≤ to9) := fun b hb => by
              rw [emm, wb_and, wb_ge ⟨by omega, by omega⟩ hb, wb_su ⟨by omega, by omega⟩ hb, Bool.eq_iff_iff]
              simp only [Bool.and_eq_true, decide_eq_true_eq]
              omega
            refine lv_aload_n hx hb dX2_closeAround_105 rfl (lv_at hl 4 rfl) ?_
            refine lv_aload_n hx hb dX2_closeAround_106 rfl (lv_at hl 5 rfl) ?_
            refine va_get (D := D) (ci := 0) (v := .ref b3) (C := RX0) (T := TX0) (N := 7) hx hb hts inX0 hown hK hP 0 rfl rfl 3 (by decide) f66 (fun _ h9 => h9) rfl dX2_closeAround_107 ?_
            refine lv_iload hx hb dX2_closeAround_110 (lv_at hl 8 rfl) ?_
            refine jv_iald hx hb hK hP 4 0 rfl rfl (i := i) ⟨by omega, by omega⟩ hnb.1 dX2_closeAround_112 ?_
            refine lv_aload_n hx hb dX2_closeAround_113 rfl (lv_at hl 4 rfl) ?_
            refine va_get (D := D) (ci := 2) (v := .int (jI ty)) (C := RX2) (T := TX2) (N := 6) hx hb hts inX2 hown hK hP 7 rfl rfl 2 (by decide) f19 (fun _ h9 => h9) rfl dX2_closeAround_114 ?_
            refine jv_isub hx hb dX2_closeAround_117 ?_
            refine lv_iload_n hx hb dX2_closeAround_118 rfl (lv_at hl 7 rfl) ?_
            refine jc_Vi (As := [.int (jI ((fy i) - ty)), .int (jI gr)]) (rest := []) (wq := [(b, .inr (0, [.ref b0, .ref b1, .ref b2, .ref b3, .ref b4, .ref b5, .int (jI bz)])), (b0, .inl (g.1, nb, .inl (aI fn))), (b1, .inl (g.1, nb, .inl (aI fl))), (b2, .inl (g.1, nb, .inl (aI fx))), (b3, .inl (g.1, nb, .inl (aI fy))), (b4, .inl (g.1, nb, .inl (aI fu))), (b5, .inl (g.1, nb, .inl (aI fv)))]) ⟨hx, hb, hml, hown, hts⟩ (tX2_firstTouching l D g o a0 f' tx ty ps pt sd ((fy i) - ty) gr (hg) (by omega)) (cwV 2 hts gX2_closeAround_X2_firstTouching rfl rfl rfl (by decide +kernel) ⟨Nat.le_of_ble_eq_true rfl, Nat.le_of_ble_eq_true rfl⟩) hK hP hD hS hA [7, 8] [0, 1, 2, 3, 4, 5, 6] rfl rfl (by decide) (by decide) (by decide) (va_recv hK hP (ci := 2) (q0 := 7) rfl rfl) rfl rfl hl.1 (Nat.le_of_ble_eq_true rfl) dX2_closeAround_119 ⟨Nat.le_refl 0, Nat.le_refl 0⟩ (fun jf9 u H locs hu hP hD hS => ?_)
            have hu : jf9 = max 0 ((((fy i) - ty) - gr - ps) / pt + 1) ∧ 0 ≤ jf9 ∧ jf9 ≤ 100001 := hu
            obtain ⟨hjf, hjf1, hjf2⟩ := hu
            have hP : va_P D jcl [(b, .inr (0, [.ref b0, .ref b1, .ref b2, .ref b3, .ref b4, .ref b5, .int (jI bz)])), (b0, .inl (g.1, nb, .inl (aI fn))), (b1, .inl (g.1, nb, .inl (aI fl))), (b2, .inl (g.1, nb, .inl (aI fx))), (b3, .inl (g.1, nb, .inl (aI fy))), (b4, .inl (g.1, nb, .inl (aI fu))), (b5, .inl (g.1, nb, .inl (aI fv))), (o, .inr (2, [.ref a0, .int (jI tx), .int (jI ty), .int (jI ps), .int (jI pt), .int (jI sd)])), (a0, .inl (g.2.1, 50, .inr (.inl (aW f'))))] H := hP
            have hD : va_D A [(b, .inr (0, [.ref b0, .ref b1, .ref b2, .ref b3, .ref b4, .ref b5, .int (jI bz)])), (b0, .inl (g.1, nb, .inl (aI fn))), (b1, .inl (g.1, nb, .inl (aI fl))), (b2, .inl (g.1, nb, .inl (aI fx))), (b3, .inl (g.1, nb, .inl (aI fy))), (b4, .inl (g.1, nb, .inl (aI fu))), (b5, .inl (g.1, nb, .inl (aI fv))), (o, .inr (2, [.ref a0, .int (jI tx), .int (jI ty), .int (jI ps), .int (jI pt), .int (jI sd)])), (a0, .inl (g.2.1, 50, .inr (.inl (aW f'))))] := hD
            have e93 : jf9 = max 0 ((q.2.2.2.1 - ty - gr - ps) / pt + 1) := by rw [hjf, e3]
            have LI : ∀ (fuel : Nat) (j9 : Int) (g' : Int → Int64), (jf9 ≤ j9 ∧ j9 ≤ max jf9 (jt9 + 1)) → (grm f' g' fr9 to9 jf9 j9) → (max jf9 (jt9 + 1) - j9 < (fuel : Int)) → ∀ (H : Heap) (locs : List Loc) (ls : Array Slot), va_P D jcl [(o, .inr (2, [.ref a0, .int (jI tx), .int (jI ty), .int (jI ps), .int (jI pt), .int (jI sd)])), (a0, .inl (g.2.1, 50, .inr (.inl (aW g')))), (b, .inr (0, [.ref b0, .ref b1, .ref b2, .ref b3, .ref b4, .ref b5, .int (jI bz)])), (b0, .inl (g.1, nb, .inl (aI fn))), (b1, .inl (g.1, nb, .inl (aI fl))), (b2, .inl (g.1, nb, .inl (aI fx))), (b3, .inl (g.1, nb, .inl (aI fy))), (b4, .inl (g.1, nb, .inl (aI fu))), (b5, .inl (g.1, nb, .inl (aI fv)))] H → va_D A [(o, .inr (2, [.ref a0, .int (jI tx), .int (jI ty), .int (jI ps), .int (jI pt), .int (jI sd)])), (a0, .inl (g.2.1, 50, .inr (.inl (aW g')))), (b, .inr (0, [.ref b0, .ref b1, .ref b2, .ref b3, .ref b4, .ref b5, .int (jI bz)])), (b0, .inl (g.1, nb, .inl (aI fn))), (b1, .inl (g.1, nb, .inl (aI fl))), (b2, .inl (g.1, nb, .inl (aI fx))), (b3, .inl (g.1, nb, .inl (aI fy))), (b4, .inl (g.1, nb, .inl (aI fu))), (b5, .inl (g.1, nb, .inl (aI fv)))] → va_S A s.heap H locs → lv_has ls 11 [(0, .ref o), (1, .ref b), (2, .int (jI lw)), (3, .int (jI gr)), (4, .int (jI i)), (7, .int (jI jt9)), (8, .long mm), (10, .int (jI j9))] → W p l e (jR 3 85) s m args below meth c H locs 0 0 Q (F0 m 124 ls []) := by
              intro fuel
              induction fuel with
              | zero =>
                intro j9 g' hj h2 hfu
                exfalso; omega
              | succ fuel ihLI =>
                intro j9 g' hj h2 hfu H locs ls hP hD hS hl
                refine lv_iload hx hb dX2_closeAround_124 (lv_at hl 7 rfl) ?_
                refine lv_iload hx hb dX2_closeAround_126 (lv_at hl 5 rfl) ?_
                refine jv_icmp_gt (tgt := 149) hx hb ⟨by omega, by omega⟩ ⟨by omega, by omega⟩ dX2_closeAround_128 (by decide) (fun c128 => ?_) (fun c128 => ?_)
                · skip
                  refine jv_iinc (lv2 := [(4, .int (jI (i + 1))), (0, .ref o), (1, .ref b), (2, .int (jI lw)), (3, .int (jI gr)), (7, .int (jI jt9)), (8, .long mm), (10, .int (jI j9))]) hx hb dX2_closeAround_149 hl (k := 4) rfl (by decide) rfl (fun ls hl => ?_)
                  refine lv_goto (tgt := 3) hx hb dX2_closeAround_152 (by decide) ?_
                  exact ihLO (i + 1) g' (by omega) (by
                    first
                    | (rw [flt_n _ hi.1 hq (onL_f (by omega))]; exact h1)
                    | (rw [flt_s _ hi.1 hq (onL_t (by omega))]; exact grI_c (grI_n h1 (by omega) e91 e92 (by omega)) hab)
                    | (rw [flt_s _ hi.1 hq (onL_t (by omega))]; exact grI_c (grI_s h1 h2 (by omega) (by omega) e91 e92 e93 e94 (by omega)) hab)) (by omega) _ _ _ (hP.sub [0, 1, 2, 3, 4, 5, 6, 7, 8] rfl) (hD.sub [0, 1, 2, 3, 4, 5, 6, 7, 8] (by decide) rfl) hS (lv_sub hl [1, 2, 3, 4, 0] rfl)
                · skip
                  refine lv_aload_n hx hb dX2_closeAround_131 rfl (lv_at hl 0 rfl) ?_
                  refine va_get (D := D) (ci := 2) (v := .ref a0) (C := RX2) (T := TX2) (N := 6) hx hb hts inX2 hown hK hP 0 rfl rfl 0 (by decide) f11 (fun _ h9 => h9) rfl dX2_closeAround_132 ?_
                  refine lv_iload hx hb dX2_closeAround_135 (lv_at hl 7 rfl) ?_
                  refine lv_dup2_11 hx hb dX2_closeAround_137 rfl rfl ?_
                  refine jv_wald hx hb hK hP 1 1 rfl rfl (i := j9) ⟨by omega, by omega⟩ (Nat.le_of_ble_eq_true rfl) dX2_closeAround_138 ?_
                  refine lv_lload hx hb dX2_closeAround_139 (lv_at hl 6 rfl) ?_
                  refine lv_lor hx hb dX2_closeAround_141 ?_
                  refine jv_wast hx hb hK hP hD hS 1 1 rfl rfl (i := j9) (x := ((g' j9) ||| mm)) ⟨by omega, by omega⟩ (Nat.le_of_ble_eq_true rfl) dX2_closeAround_142 (fun H locs hP hD hS => ?_)
                  have hP : va_P D jcl [(o, .inr (2, [.ref a0, .int (jI tx), .int (jI ty), .int (jI ps), .int (jI pt), .int (jI sd)])), (a0, .inl (g.2.1, 50, .inr (.inl (aW (upW g' j9 ((g' j9) ||| mm)))))), (b, .inr (0, [.ref b0, .ref b1, .ref b2, .ref b3, .ref b4, .ref b5, .int (jI bz)])), (b0, .inl (g.1, nb, .inl (aI fn))), (b1, .inl (g.1, nb, .inl (aI fl))), (b2, .inl (g.1, nb, .inl (aI fx))), (b3, .inl (g.1, nb, .inl (aI fy))), (b4, .inl (g.1, nb, .inl (aI fu))), (b5, .inl (g.1, nb, .inl (aI fv)))] H := hP
                  have hD : va_D A [(o, .inr (2, [.ref a0, .int (jI tx), .int (jI ty), .int (jI ps), .int (jI pt), .int (jI sd)])), (a0, .inl (g.2.1, 50, .inr (.inl (aW (upW g' j9 ((g' j9) ||| mm)))))), (b, .inr (0, [.ref b0, .ref b1, .ref b2, .ref b3, .ref b4, .ref b5, .int (jI bz)])), (b0, .inl (g.1, nb, .inl (aI fn))), (b1, .inl (g.1, nb, .inl (aI fl))), (b2, .inl (g.1, nb, .inl (aI fx))), (b3, .inl (g.1, nb, .inl (aI fy))), (b4, .inl (g.1, nb, .inl (aI fu))), (b5, .inl (g.1, nb, .inl (aI fv)))] := hD
                  refine jv_iinc (lv2 := [(10, .int (jI (j9 + 1))), (0, .ref o), (1, .ref b), (2, .int (jI lw)), (3, .int (jI gr)), (4, .int (jI i)), (7, .int (jI jt9)), (8, .long mm)]) hx hb dX2_closeAround_143 hl (k := 7) rfl (by decide) rfl (fun ls hl => ?_)
                  refine lv_goto (tgt := 124) hx hb dX2_closeAround_146 (by decide) ?_
                  exact ihLI (j9 + 1) (upW g' j9 ((g' j9) ||| mm)) (by omega) (grm_s h2 hj.1 hmm) (by omega) _ _ _ (hP.sub [0, 1, 2, 3, 4, 5, 6, 7, 8] rfl) (hD.sub [0, 1, 2, 3, 4, 5, 6, 7, 8] (by decide) rfl) hS (lv_sub hl [1, 2, 3, 4, 5, 6, 7, 0] rfl)
            refine lv_istore (lv' := [(10, .int (jI jf9)), (8, .long mm), (7, .int (jI jt9)), (6, .int (jI to9)), (5, .int (jI fr9)), (0, .ref o), (1, .ref b), (2, .int (jI lw)), (3, .int (jI gr)), (4, .int (jI i))]) hx hb dX2_closeAround_122 hl (by decide) rfl (fun ls hl => ?_)
            exact LI ((max jf9 (jt9 + 1) - jf9).toNat + 1) jf9 f' (by omega) (grm_0) (by omega) _ _ _ (hP.sub [7, 8, 0, 1, 2, 3, 4, 5, 6] rfl) (hD.sub [7, 8, 0, 1, 2, 3, 4, 5, 6] (by decide) rfl) hS (lv_sub hl [5, 6, 7, 8, 9, 2, 1, 0] rfl)
  refine jv_iconst hx hb dX2_closeAround_0 ?_
  refine lv_istore (lv' := [(4, .int (jI 0)), (0, .ref o), (1, .ref b), (2, .int (jI lw)), (3, .int (jI gr))]) hx hb dX2_closeAround_1 hl (by decide) rfl (fun ls hl => ?_)
  exact LO ((bz - 0).toNat + 1) 0 f (by omega) (by rw [pre_0]; exact grI_c hgi fun i j => (Bool.or_false _).symm) (by omega) _ _ _ (hP.sub [0, 1, 2, 3, 4, 5, 6, 7, 8] rfl) (hD.sub [0, 1, 2, 3, 4, 5, 6, 7, 8] (by decide) rfl) hS (lv_sub hl [1, 2, 3, 4, 0] rfl)

set_option maxHeartbeats 4000000 in
set_option maxRecDepth 100000 in
/-- Grid.isOpen -/
theorem tX2_isOpen (l : Launch) (D : va_G) (g : ClassId × ClassId × ClassId) (o : Nat) (a0 : Nat) (f : Int → Int64) (tx : Int) (ty : Int) (ps : Int) (pt : Int) (sd : Int) (i9 : Int) (j9 : Int) (hij : 0 ≤ i9 ∧ i9 < 64 ∧ 0 ≤ j9 ∧ j9 < 50) : jMi l D g yX2_isOpen wsX2_isOpen 1 22 [.ref o, .int (jI i9), .int (jI j9)] [(o, .inr (2, [.ref a0, .int (jI tx), .int (jI ty), .int (jI ps), .int (jI pt), .int (jI sd)])), (a0, .inl (g.2.1, 50, .inr (.inl (aW f))))] (S := Unit) (fun z _ => (z = 1 ∧ gbit f i9 j9 = false) ∨ (z = 0 ∧ gbit f i9 j9 = true)) (fun _ => [(o, .inr (2, [.ref a0, .int (jI tx), .int (jI ty), .int (jI ps), .int (jI pt), .int (jI sd)])), (a0, .inl (g.2.1, 50, .inr (.inl (aW f))))]) := by
  refine jMz_of (cc := cX2_isOpen) (maxL := 3) (by decide) rfl (Nat.le_of_ble_eq_true rfl) ?_
  intro p e s m args below meth c Q A hx hb hml hts hown hK hA hret ls hl hP hD
  have hS : va_S A s.heap s.heap [] := va_S.rf
  have hown : s.vm.findClass RX2 = some m.cls := hown
  have f11 := hts (.fieldLink RX2 11 "AntennaFill$Grid" "closed" "[J") (by decide +kernel)
  have inX2 : ∀ w ∈ wsX20, w ∈ wsX2_isOpen := by decide +kernel
  have hl : lv_has ls 3 [(0, .ref o), (1, .int (jI i9)), (2, .int (jI j9))] := hl
  refine lv_aload_n hx hb dX2_isOpen_0 rfl (lv_at hl 0 rfl) ?_
  refine va_get (D := D) (ci := 2) (v := .ref a0) (C := RX2) (T := TX2) (N := 6) hx hb hts inX2 hown hK hP 0 rfl rfl 0 (by decide) f11 (fun _ h9 => h9) rfl dX2_isOpen_1 ?_
  refine lv_iload_n hx hb dX2_isOpen_4 rfl (lv_at hl 2 rfl) ?_
  refine jv_wald hx hb hK hP 1 1 rfl rfl (i := j9) ⟨by omega, by omega⟩ (Nat.le_of_ble_eq_true rfl) dX2_isOpen_5 ?_
  refine lv_iload_n hx hb dX2_isOpen_6 rfl (lv_at hl 1 rfl) ?_
  refine lv_lshr (v := (wSh (f j9) i9)) hx hb dX2_isOpen_7 rfl ?_
  refine jv_lconst1 hx hb dX2_isOpen_8 ?_
  refine lv_land hx hb dX2_isOpen_9 ?_
  refine jw_topW (wb_sh (f j9) (a := i9) ⟨by omega, by omega⟩) ?_
  have hr9 : rL (if wb (f j9) i9.toNat then 1 else 0) := by split <;> exact ⟨by decide, by decide⟩
  refine jv_lconst0 hx hb dX2_isOpen_10 ?_
  refine jv_lcmp_ne (tgt := 19) hx hb ⟨by omega, by omega⟩ ⟨by decide, by decide⟩ dX2_isOpen_11 dX2_isOpen_12 (by decide) (fun c11 => ?_) (fun c11 => ?_)
  · skip
    refine jv_iconst hx hb dX2_isOpen_19 ?_
    exact hret 0 () _ _ _ _ (by omega) (Or.inr ⟨rfl, by
      unfold gbit
      cases c : wb (f j9) i9.toNat
      · rw [c] at c11; exact absurd rfl c11
      · rfl⟩) (hP.sub [0, 1] rfl) (hD.sub [0, 1] (by decide) rfl) hS dX2_isOpen_20
  · skip
    refine jv_iconst hx hb dX2_isOpen_15 ?_
    refine lv_goto (tgt := 20) hx hb dX2_isOpen_16 (by decide) ?_
    exact hret 1 () _ _ _ _ (by omega) (Or.inl ⟨rfl, by
      unfold gbit
      cases c : wb (f j9) i9.toNat
      · rfl
      · rw [c] at c11; exact absurd c11 (by decide)⟩) (hP.sub [0, 1] rfl) (hD.sub [0, 1] (by decide) rfl) hS dX2_isOpen_20

set_option maxHeartbeats 4000000 in
set_option maxRecDepth 100000 in
/-- slotsInShape -/
theorem tX4_slotsInShape (l : Launch) (D : va_G) (g : ClassId × ClassId × ClassId) (h : Nat) (ad : Nat → Nat) (ly : Int) (nt : Int) (td : Int) (tc : Int) (fn : Int → Int) (fl : Int → Int) (fx : Int → Int) (fy : Int → Int) (fu : Int → Int) (fv : Int → Int) (bz : Int) (L : List jQ) (q : jQ) (sx9 : Int) (w9 : Int) (hB : bx fn fl fx fy fu fv bz L) (hbz : bz ≤ 200) (hs9 : 0 ≤ sx9 ∧ sx9 < bz ∧ L[Int.toNat sx9]? = some q) (hw9 : 1 ≤ w9 ∧ w9 ≤ 400) : jMi l D g yX4_slotsInShape wsX4_slotsInShape 1 23 [.ref h, .int (jI sx9), .int (jI w9)] [(h, .inr (4, [.int (jI ly), .int (jI nt), .ref (ad 2), .ref (ad 3), .ref (ad 4), .ref (ad 5), .ref (ad 6), .int (jI td), .ref (ad 8), .ref (ad 9), .ref (ad 10), .ref (ad 11), .ref (ad 12), .ref (ad 13), .ref (ad 14), .int (jI tc), .ref (ad 16), .ref (ad 17), .ref (ad 18)])), ((ad 3), .inr (0, [.ref (ad 30), .ref (ad 31), .ref (ad 32), .ref (ad 33), .ref (ad 34), .ref (ad 35), .int (jI bz)])), ((ad 30), .inl (g.1, 200, .inl (aI fn))), ((ad 31), .inl (g.1, 200, .inl (aI fl))), ((ad 32), .inl (g.1, 200, .inl (aI fx))), ((ad 33), .inl (g.1, 200, .inl (aI fy))), ((ad 34), .inl (g.1, 200, .inl (aI fu))), ((ad 35), .inl (g.1, 200, .inl (aI fv)))] (S := Unit) (fun z _ => z = slN q w9) (fun _ => [(h, .inr (4, [.int (jI ly), .int (jI nt), .ref (ad 2), .ref (ad 3), .ref (ad 4), .ref (ad 5), .ref (ad 6), .int (jI td), .ref (ad 8), .ref (ad 9), .ref (ad 10), .ref (ad 11), .ref (ad 12), .ref (ad 13), .ref (ad 14), .int (jI tc), .ref (ad 16), .ref (ad 17), .ref (ad 18)])), ((ad 3), .inr (0, [.ref (ad 30), .ref (ad 31), .ref (ad 32), .ref (ad 33), .ref (ad 34), .ref (ad 35), .int (jI bz)])), ((ad 30), .inl (g.1, 200, .inl (aI fn))), ((ad 31), .inl (g.1, 200, .inl (aI fl))), ((ad 32), .inl (g.1, 200, .inl (aI fx))), ((ad 33), .inl (g.1, 200, .inl (aI fy))), ((ad 34), .inl (g.1, 200, .inl (aI fu))), ((ad 35), .inl (g.1, 200, .inl (aI fv)))]) := by
  refine jMi_of (cc := cX4_slotsInShape) (maxL := 4) (by decide) rfl (Nat.le_of_ble_eq_true rfl) ?_
  intro p e s m args below meth c Q A hx hb hml hts hown hK hA hret ls hl hP hD
  have hS : va_S A s.heap s.heap [] := va_S.rf
  have hown : s.vm.findClass RX4 = some m.cls := hown
  have f31 := hts (.fieldLink RX4 31 "AntennaFill" "shapes" "LAntennaFill$Boxes;") (by decide +kernel)
  have f181 := hts (.fieldLink RX4 181 "AntennaFill$Boxes" "x0" "[I") (by decide +kernel)
  have f184 := hts (.fieldLink RX4 184 "AntennaFill$Boxes" "y0" "[I") (by decide +kernel)
  have f264 := hts (.fieldLink RX4 264 "AntennaFill$Boxes" "x1" "[I") (by decide +kernel)
  have f267 := hts (.fieldLink RX4 267 "AntennaFill$Boxes" "y1" "[I") (by decide +kernel)
  have inX0 : ∀ w ∈ wsX00, w ∈ wsX4_slotsInShape := by decide +kernel
  have inX4 : ∀ w ∈ wsX40, w ∈ wsX4_slotsInShape := by decide +kernel
  have m9 := hts (.methodLink RX4 9 Lib.Math.min.name) (by decide +kernel)
  have s9 := hts (.static Lib.Math.min.name) (by decide +kernel)
  have c9 := hts (.code Lib.Math.min.name Lib.Math.min.code 2 (some .int)) (by decide +kernel)
  have iM := hts (.initialized "java/lang/Math") (by decide +kernel)
  have hl : lv_has ls 4 [(0, .ref h), (1, .int (jI sx9)), (2, .int (jI w9))] := hl
  have hlen := hB.1
  obtain ⟨q9, hq9, hm9, e0, e1, e2, e3, e4, e5, hok⟩ := bx_at hB (k := sx9) ⟨hs9.1, hs9.2.1⟩
  have e9 : q9 = q := by rw [hs9.2.2] at hq9; exact (Option.some.inj hq9).symm
  subst e9
  have hok2 := hok
  unfold okQ at hok
  refine lv_aload_n hx hb dX4_slotsInShape_0 rfl (lv_at hl 0 rfl) ?_
  refine va_get (D := D) (ci := 4) (v := .ref (ad 3)) (C := RX4) (T := TX4) (N := 19) hx hb hts inX4 hown hK hP 0 rfl rfl 3 (by decide) f31 (fun _ h9 => h9) rfl dX4_slotsInShape_1 ?_
  refine va_get (D := D) (ci := 0) (v := .ref (ad 34)) (C := RX0) (T := TX0) (N := 7) hx hb hts inX0 hown hK hP 1 rfl rfl 4 (by decide) f264 (fun _ h9 => h9) rfl dX4_slotsInShape_4 ?_
  refine lv_iload_n hx hb dX4_slotsInShape_7 rfl (lv_at hl 1 rfl) ?_
  refine jv_iald hx hb hK hP 6 0 rfl rfl (i := sx9) ⟨by omega, by omega⟩ (Nat.le_of_ble_eq_true rfl) dX4_slotsInShape_8 ?_
  refine lv_aload_n hx hb dX4_slotsInShape_9 rfl (lv_at hl 0 rfl) ?_
  refine va_get (D := D) (ci := 4) (v := .ref (ad 3)) (C := RX4) (T := TX4) (N := 19) hx hb hts inX4 hown hK hP 0 rfl rfl 3 (by decide) f31 (fun _ h9 => h9) rfl dX4_slotsInShape_10 ?_
  refine va_get (D := D) (ci := 0) (v := .ref (ad 32)) (C := RX0) (T := TX0) (N := 7) hx hb hts inX0 hown hK hP 1 rfl rfl 2 (by decide) f181 (fun _ h9 => h9) rfl dX4_slotsInShape_13 ?_
  refine lv_iload_n hx hb dX4_slotsInShape_16 rfl (lv_at hl 1 rfl) ?_
  refine jv_iald hx hb hK hP 4 0 rfl rfl (i := sx9) ⟨by omega, by omega⟩ (Nat.le_of_ble_eq_true rfl) dX4_slotsInShape_17 ?_
  refine jv_isub hx hb dX4_slotsInShape_18 ?_
  refine lv_aload_n hx hb dX4_slotsInShape_19 rfl (lv_at hl 0 rfl) ?_
  refine va_get (D := D) (ci := 4) (v := .ref (ad 3)) (C := RX4) (T := TX4) (N := 19) hx hb hts inX4 hown hK hP 0 rfl rfl 3 (by decide) f31 (fun _ h9 => h9) rfl dX4_slotsInShape_20 ?_
  refine va_get (D := D) (ci := 0) (v := .ref (ad 35)) (C := RX0) (T := TX0) (N := 7) hx hb hts inX0 hown hK hP 1 rfl rfl 5 (by decide) f267 (fun _ h9 => h9) rfl dX4_slotsInShape_23 ?_
  refine lv_iload_n hx hb dX4_slotsInShape_26 rfl (lv_at hl 1 rfl) ?_
  refine jv_iald hx hb hK hP 7 0 rfl rfl (i := sx9) ⟨by omega, by omega⟩ (Nat.le_of_ble_eq_true rfl) dX4_slotsInShape_27 ?_
  refine lv_aload_n hx hb dX4_slotsInShape_28 rfl (lv_at hl 0 rfl) ?_
  refine va_get (D := D) (ci := 4) (v := .ref (ad 3)) (C := RX4) (T := TX4) (N := 19) hx hb hts inX4 hown hK hP 0 rfl rfl 3 (by decide) f31 (fun _ h9 => h9) rfl dX4_slotsInShape_29 ?_
  refine va_get (D := D) (ci := 0) (v := .ref (ad 33)) (C := RX0) (T := TX0) (N := 7) hx hb hts inX0 hown hK hP 1 rfl rfl 3 (by decide) f184 (fun _ h9 => h9) rfl dX4_slotsInShape_32 ?_
  refine lv_iload_n hx hb dX4_slotsInShape_35 rfl (lv_at hl 1 rfl) ?_
  refine jv_iald hx hb hK hP 5 0 rfl rfl (i := sx9) ⟨by omega, by omega⟩ (Nat.le_of_ble_eq_true rfl) dX4_slotsInShape_36 ?_
  refine jv_isub hx hb dX4_slotsInShape_37 ?_
  refine jv_min hx hb (hml.trans hl.1.symm) hown m9 s9 iM c9 (Nat.le_of_ble_eq_true rfl) (Nat.le_of_ble_eq_true rfl) (Nat.le_refl 0) (Nat.le_refl 0) ⟨by omega, by omega⟩ ⟨by omega, by omega⟩ dX4_slotsInShape_38 (fun br ebr => ?_)
  have ebr9 : br = min (q9.2.2.2.2.1 - q9.2.2.1) (q9.2.2.2.2.2 - q9.2.2.2.1) := by rw [← e2, ← e3, ← e4, ← e5]; exact ebr
  refine lv_istore_n (lv' := [(3, .int (jI br)), (0, .ref h), (1, .int (jI sx9)), (2, .int (jI w9))]) hx hb dX4_slotsInShape_41 rfl hl (by decide) rfl (fun ls hl => ?_)
  refine lv_iload_n hx hb dX4_slotsInShape_42 rfl (lv_at hl 3 rfl) ?_
  refine jv_iconst hx hb dX4_slotsInShape_43 ?_
  refine jv_icmp_lt (tgt := 56) hx hb ⟨by omega, by omega⟩ ⟨by decide, by decide⟩ dX4_slotsInShape_44 (by decide) (fun c44 => ?_) (fun c44 => ?_)
  · exfalso; omega
  · skip
    refine lv_iload_n hx hb dX4_slotsInShape_47 rfl (lv_at hl 0 rfl) ?_
    refine jv_iconst hx hb dX4_slotsInShape_48 ?_
    refine lv_iload_n hx hb dX4_slotsInShape_49 rfl (lv_at hl 3 rfl) ?_
    refine jv_imul hx hb dX4_slotsInShape_50 ?_
    refine jv_iconst hx hb dX4_slotsInShape_51 ?_
    refine jv_iadd hx hb dX4_slotsInShape_52 ?_
    refine jv_icmp_ge (tgt := 58) hx hb ⟨by omega, by omega⟩ ⟨by omega, by omega⟩ dX4_slotsInShape_53 (by decide) (fun c53 => ?_) (fun c53 => ?_)
    · skip
      refine lv_iload_n hx hb dX4_slotsInShape_58 rfl (lv_at hl 0 rfl) ?_
      refine lv_iload_n hx hb dX4_slotsInShape_59 rfl (lv_at hl 3 rfl) ?_
      refine jv_isub hx hb dX4_slotsInShape_60 ?_
      refine lv_iload_n hx hb dX4_slotsInShape_61 rfl (lv_at hl 3 rfl) ?_
      refine jv_iconst hx hb dX4_slotsInShape_62 ?_
      refine jv_iadd hx hb dX4_slotsInShape_63 ?_
      refine jv_idivN hx hb ⟨by omega, by omega, by omega⟩ ⟨by omega, by omega, by omega⟩ dX4_slotsInShape_64 ?_
      exact hret ((br - w9) / (w9 + 2)) () _ _ _ _ (by unfold slN; rw [← ebr9, if_neg (by omega)]) (hP.sub [0, 1, 2, 3, 4, 5, 6, 7] rfl) (hD.sub [0, 1, 2, 3, 4, 5, 6, 7] (by decide) rfl) hS dX4_slotsInShape_65
    · skip
      refine jv_iconst hx hb dX4_slotsInShape_56 ?_
      exact hret 0 () _ _ _ _ (by unfold slN; rw [← ebr9, if_pos (by omega)]) (hP.sub [0, 1, 2, 3, 4, 5, 6, 7] rfl) (hD.sub [0, 1, 2, 3, 4, 5, 6, 7] (by decide) rfl) hS dX4_slotsInShape_57

set_option maxHeartbeats 4000000 in
set_option maxRecDepth 100000 in
/-- slotSide -/
theorem tX4_slotSide (l : Launch) (D : va_G) (g : ClassId × ClassId × ClassId) (h : Nat) (ad : Nat → Nat) (ly : Int) (nt : Int) (td : Int) (tc : Int) (fn : Int → Int) (fl : Int → Int) (fx : Int → Int) (fy : Int → Int) (fu : Int → Int) (fv : Int → Int) (bz : Int) (L : List jQ) (q : jQ) (sx9 : Int) (w9 : Int) (k9 : Int) (sd : Int) (hB : bx fn fl fx fy fu fv bz L) (hbz : bz ≤ 200) (hs9 : 0 ≤ sx9 ∧ sx9 < bz ∧ L[Int.toNat sx9]? = some q) (hw9 : 1 ≤ w9 ∧ w9 ≤ 400) (hk9 : 0 ≤ k9 ∧ k9 < slN q w9) (hsd : 0 ≤ sd ∧ sd < 4) : jMi l D g yX4_slotSide wsX4_slotSide 1 26 [.ref h, .int (jI sx9), .int (jI w9), .int (jI k9), .int (jI sd)] [(h, .inr (4, [.int (jI ly), .int (jI nt), .ref (ad 2), .ref (ad 3), .ref (ad 4), .ref (ad 5), .ref (ad 6), .int (jI td), .ref (ad 8), .ref (ad 9), .ref (ad 10), .ref (ad 11), .ref (ad 12), .ref (ad 13), .ref (ad 14), .int (jI tc), .ref (ad 16), .ref (ad 17), .ref (ad 18)])), ((ad 3), .inr (0, [.ref (ad 30), .ref (ad 31), .ref (ad 32), .ref (ad 33), .ref (ad 34), .ref (ad 35), .int (jI bz)])), ((ad 30), .inl (g.1, 200, .inl (aI fn))), ((ad 31), .inl (g.1, 200, .inl (aI fl))), ((ad 32), .inl (g.1, 200, .inl (aI fx))), ((ad 33), .inl (g.1, 200, .inl (aI fy))), ((ad 34), .inl (g.1, 200, .inl (aI fu))), ((ad 35), .inl (g.1, 200, .inl (aI fv)))] (S := Unit) (fun z _ => z = slS q w9 k9 sd) (fun _ => [(h, .inr (4, [.int (jI ly), .int (jI nt), .ref (ad 2), .ref (ad 3), .ref (ad 4), .ref (ad 5), .ref (ad 6), .int (jI td), .ref (ad 8), .ref (ad 9), .ref (ad 10), .ref (ad 11), .ref (ad 12), .ref (ad 13), .ref (ad 14), .int (jI tc), .ref (ad 16), .ref (ad 17), .ref (ad 18)])), ((ad 3), .inr (0, [.ref (ad 30), .ref (ad 31), .ref (ad 32), .ref (ad 33), .ref (ad 34), .ref (ad 35), .int (jI bz)])), ((ad 30), .inl (g.1, 200, .inl (aI fn))), ((ad 31), .inl (g.1, 200, .inl (aI fl))), ((ad 32), .inl (g.1, 200, .inl (aI fx))), ((ad 33), .inl (g.1, 200, .inl (aI fy))), ((ad 34), .inl (g.1, 200, .inl (aI fu))), ((ad 35), .inl (g.1, 200, .inl (aI fv)))]) := by
  refine jMi_of (cc := cX4_slotSide) (maxL := 7) (by decide) rfl (Nat.le_of_ble_eq_true rfl) ?_
  intro p e s m args below meth c Q A hx hb hml hts hown hK hA hret ls hl hP hD
  have hS : va_S A s.heap s.heap [] := va_S.rf
  have hown : s.vm.findClass RX4 = some m.cls := hown
  have f31 := hts (.fieldLink RX4 31 "AntennaFill" "shapes" "LAntennaFill$Boxes;") (by decide +kernel)
  have f181 := hts (.fieldLink RX4 181 "AntennaFill$Boxes" "x0" "[I") (by decide +kernel)
  have f184 := hts (.fieldLink RX4 184 "AntennaFill$Boxes" "y0" "[I") (by decide +kernel)
  have f264 := hts (.fieldLink RX4 264 "AntennaFill$Boxes" "x1" "[I") (by decide +kernel)
  have f267 := hts (.fieldLink RX4 267 "AntennaFill$Boxes" "y1" "[I") (by decide +kernel)
  have inX0 : ∀ w ∈ wsX00, w ∈ wsX4_slotSide := by decide +kernel
  have inX4 : ∀ w ∈ wsX40, w ∈ wsX4_slotSide := by decide +kernel
  have hl : lv_has ls 7 [(0, .ref h), (1, .int (jI sx9)), (2, .int (jI w9)), (3, .int (jI k9)), (4, .int (jI sd))] := hl
  have hlen := hB.1
  obtain ⟨q9, hq9, hm9, e0, e1, e2, e3, e4, e5, hok⟩ := bx_at hB (k := sx9) ⟨hs9.1, hs9.2.1⟩
  have e9 : q9 = q := by rw [hs9.2.2] at hq9; exact (Option.some.inj hq9).symm
  subst e9
  have hok2 := hok
  unfold okQ at hok
  have hnb := slN_bd hok2 hw9.1
  have hkb := hnb.2.2 k9 hk9.1 hk9.2
  have J46 : ∀ (al : Int), ((al = 1 ∧ q9.2.2.2.2.2 - q9.2.2.2.1 ≤ q9.2.2.2.2.1 - q9.2.2.1) ∨ (al = 0 ∧ ¬ q9.2.2.2.2.2 - q9.2.2.2.1 ≤ q9.2.2.2.2.1 - q9.2.2.1)) → ∀ (H : Heap) (locs : List Loc) (ls : Array Slot), va_P D jcl [(h, .inr (4, [.int (jI ly), .int (jI nt), .ref (ad 2), .ref (ad 3), .ref (ad 4), .ref (ad 5), .ref (ad 6), .int (jI td), .ref (ad 8), .ref (ad 9), .ref (ad 10), .ref (ad 11), .ref (ad 12), .ref (ad 13), .ref (ad 14), .int (jI tc), .ref (ad 16), .ref (ad 17), .ref (ad 18)])), ((ad 3), .inr (0, [.ref (ad 30), .ref (ad 31), .ref (ad 32), .ref (ad 33), .ref (ad 34), .ref (ad 35), .int (jI bz)])), ((ad 30), .inl (g.1, 200, .inl (aI fn))), ((ad 31), .inl (g.1, 200, .inl (aI fl))), ((ad 32), .inl (g.1, 200, .inl (aI fx))), ((ad 33), .inl (g.1, 200, .inl (aI fy))), ((ad 34), .inl (g.1, 200, .inl (aI fu))), ((ad 35), .inl (g.1, 200, .inl (aI fv)))] H → va_D A [(h, .inr (4, [.int (jI ly), .int (jI nt), .ref (ad 2), .ref (ad 3), .ref (ad 4), .ref (ad 5), .ref (ad 6), .int (jI td), .ref (ad 8), .ref (ad 9), .ref (ad 10), .ref (ad 11), .ref (ad 12), .ref (ad 13), .ref (ad 14), .int (jI tc), .ref (ad 16), .ref (ad 17), .ref (ad 18)])), ((ad 3), .inr (0, [.ref (ad 30), .ref (ad 31), .ref (ad 32), .ref (ad 33), .ref (ad 34), .ref (ad 35), .int (jI bz)])), ((ad 30), .inl (g.1, 200, .inl (aI fn))), ((ad 31), .inl (g.1, 200, .inl (aI fl))), ((ad 32), .inl (g.1, 200, .inl (aI fx))), ((ad 33), .inl (g.1, 200, .inl (aI fy))), ((ad 34), .inl (g.1, 200, .inl (aI fu))), ((ad 35), .inl (g.1, 200, .inl (aI fv)))] → va_S A s.heap H locs → lv_has ls 7 [(0, .ref h), (1, .int (jI sx9)), (2, .int (jI w9)), (3, .int (jI k9)), (4, .int (jI sd))] → W p l e (jR 1 26) s m args below meth c H locs 0 0 Q (F0 m 46 ls [.int (jI al)]) := by
    intro al hal H locs ls hP hD hS hl
    refine lv_istore (lv' := [(5, .int (jI al)), (0, .ref h), (1, .int (jI sx9)), (2, .int (jI w9)), (3, .int (jI k9)), (4, .int (jI sd))]) hx hb dX4_slotSide_46 hl (by decide) rfl (fun ls hl => ?_)
    refine lv_iload_n hx hb dX4_slotSide_48 rfl (lv_at hl 3 rfl) ?_
    refine lv_iload_n hx hb dX4_slotSide_49 rfl (lv_at hl 4 rfl) ?_
    refine lv_iload_n hx hb dX4_slotSide_50 rfl (lv_at hl 3 rfl) ?_
    refine jv_iconst hx hb dX4_slotSide_51 ?_
    refine jv_iadd hx hb dX4_slotSide_52 ?_
    refine jv_imul hx hb dX4_slotSide_53 ?_
    refine jv_iadd hx hb dX4_slotSide_54 ?_
    refine jv_nm (fun at9 eat9 => ?_)
    refine lv_istore (lv' := [(6, .int (jI at9)), (5, .int (jI al)), (0, .ref h), (1, .int (jI sx9)), (2, .int (jI w9)), (3, .int (jI k9)), (4, .int (jI sd))]) hx hb dX4_slotSide_55 hl (by decide) rfl (fun ls hl => ?_)
    refine lv_iload hx hb dX4_slotSide_57 (lv_at hl 6 rfl) ?_
    by_cases c59_0 : sd = 0
    · refine jv_tabIn (off := 25) (tgt := 84) hx hb ⟨by omega, by omega⟩ dX4_slotSide_59 (by omega) (by rw [c59_0]; rfl) (by decide) ?_
      refine lv_aload_n hx hb dX4_slotSide_84 rfl (lv_at hl 2 rfl) ?_
      refine va_get (D := D) (ci := 4) (v := .ref (ad 3)) (C := RX4) (T := TX4) (N := 19) hx hb hts inX4 hown hK hP 0 rfl rfl 3 (by decide) f31 (fun _ h9 => h9) rfl dX4_slotSide_85 ?_
      refine va_get (D := D) (ci := 0) (v := .ref (ad 32)) (C := RX0) (T := TX0) (N := 7) hx hb hts inX0 hown hK hP 1 rfl rfl 2 (by decide) f181 (fun _ h9 => h9) rfl dX4_slotSide_88 ?_
      refine lv_iload_n hx hb dX4_slotSide_91 rfl (lv_at hl 3 rfl) ?_
      refine jv_iald hx hb hK hP 4 0 rfl rfl (i := sx9) ⟨by omega, by omega⟩ (Nat.le_of_ble_eq_true rfl) dX4_slotSide_92 ?_
      refine lv_iload hx hb dX4_slotSide_93 (lv_at hl 1 rfl) ?_
      refine jv_if_eq (tgt := 102) hx hb ⟨by omega, by omega⟩ dX4_slotSide_95 (by decide) (fun c95 => ?_) (fun c95 => ?_)
      · skip
        refine lv_iload hx hb dX4_slotSide_102 (lv_at hl 0 rfl) ?_
        refine jv_iadd hx hb dX4_slotSide_104 ?_
        exact hret ((fx sx9) + at9) () _ _ _ _ (by
          rcases hal with ⟨hal, hal2⟩ | ⟨hal, hal2⟩
          · first
            | omega
            | (unfold slS; rw [if_pos hal2]; simp only [c59_0, c59_1, c59_2]; omega)
            | (unfold slS; rw [if_pos hal2, if_neg c59_0, if_neg c59_1, if_neg c59_2]; omega)
            | (unfold slS; rw [if_pos hal2, if_neg c59_0, if_neg c59_1, if_pos c59_2]; omega)
            | (unfold slS; rw [if_pos hal2, if_neg c59_0, if_pos c59_1]; omega)
            | (unfold slS; rw [if_pos hal2, if_pos c59_0]; omega)
          · first
            | omega
            | (unfold slS; rw [if_neg hal2, if_neg c59_0, if_neg c59_1, if_neg c59_2]; omega)
            | (unfold slS; rw [if_neg hal2, if_neg c59_0, if_neg c59_1, if_pos c59_2]; omega)
            | (unfold slS; rw [if_neg hal2, if_neg c59_0, if_pos c59_1]; omega)
            | (unfold slS; rw [if_neg hal2, if_pos c59_0]; omega)) (hP.sub [0, 1, 2, 3, 4, 5, 6, 7] rfl) (hD.sub [0, 1, 2, 3, 4, 5, 6, 7] (by decide) rfl) hS dX4_slotSide_105
      · skip
        refine lv_iload_n hx hb dX4_slotSide_98 rfl (lv_at hl 4 rfl) ?_
        refine lv_goto (tgt := 104) hx hb dX4_slotSide_99 (by decide) ?_
        refine jv_iadd hx hb dX4_slotSide_104 ?_
        exact hret ((fx sx9) + w9) () _ _ _ _ (by
          rcases hal with ⟨hal, hal2⟩ | ⟨hal, hal2⟩
          · first
            | omega
            | (unfold slS; rw [if_pos hal2]; simp only [c59_0, c59_1, c59_2]; omega)
            | (unfold slS; rw [if_pos hal2, if_neg c59_0, if_neg c59_1, if_neg c59_2]; omega)
            | (unfold slS; rw [if_pos hal2, if_neg c59_0, if_neg c59_1, if_pos c59_2]; omega)
            | (unfold slS; rw [if_pos hal2, if_neg c59_0, if_pos c59_1]; omega)
            | (unfold slS; rw [if_pos hal2, if_pos c59_0]; omega)
          · first
            | omega
            | (unfold slS; rw [if_neg hal2, if_neg c59_0, if_neg c59_1, if_neg c59_2]; omega)
            | (unfold slS; rw [if_neg hal2, if_neg c59_0, if_neg c59_1, if_pos c59_2]; omega)
            | (unfold slS; rw [if_neg hal2, if_neg c59_0, if_pos c59_1]; omega)
            | (unfold slS; rw [if_neg hal2, if_pos c59_0]; omega)) (hP.sub [0, 1, 2, 3, 4, 5, 6, 7] rfl) (hD.sub [0, 1, 2, 3, 4, 5, 6, 7] (by decide) rfl) hS dX4_slotSide_105
    by_cases c59_1 : sd = 1
    · refine jv_tabIn (off := 47) (tgt := 106) hx hb ⟨by omega, by omega⟩ dX4_slotSide_59 (by omega) (by rw [c59_1]; rfl) (by decide) ?_
      refine lv_aload_n hx hb dX4_slotSide_106 rfl (lv_at hl 2 rfl) ?_
      refine va_get (D := D) (ci := 4) (v := .ref (ad 3)) (C := RX4) (T := TX4) (N := 19) hx hb hts inX4 hown hK hP 0 rfl rfl 3 (by decide) f31 (fun _ h9 => h9) rfl dX4_slotSide_107 ?_
      refine va_get (D := D) (ci := 0) (v := .ref (ad 33)) (C := RX0) (T := TX0) (N := 7) hx hb hts inX0 hown hK hP 1 rfl rfl 3 (by decide) f184 (fun _ h9 => h9) rfl dX4_slotSide_110 ?_
      refine lv_iload_n hx hb dX4_slotSide_113 rfl (lv_at hl 3 rfl) ?_
      refine jv_iald hx hb hK hP 5 0 rfl rfl (i := sx9) ⟨by omega, by omega⟩ (Nat.le_of_ble_eq_true rfl) dX4_slotSide_114 ?_
      refine lv_iload hx hb dX4_slotSide_115 (lv_at hl 1 rfl) ?_
      refine jv_if_eq (tgt := 125) hx hb ⟨by omega, by omega⟩ dX4_slotSide_117 (by decide) (fun c117 => ?_) (fun c117 => ?_)
      · skip
        refine lv_iload_n hx hb dX4_slotSide_125 rfl (lv_at hl 4 rfl) ?_
        refine jv_iadd hx hb dX4_slotSide_126 ?_
        exact hret ((fy sx9) + w9) () _ _ _ _ (by
          rcases hal with ⟨hal, hal2⟩ | ⟨hal, hal2⟩
          · first
            | omega
            | (unfold slS; rw [if_pos hal2]; simp only [c59_0, c59_1, c59_2]; omega)
            | (unfold slS; rw [if_pos hal2, if_neg c59_0, if_neg c59_1, if_neg c59_2]; omega)
            | (unfold slS; rw [if_pos hal2, if_neg c59_0, if_neg c59_1, if_pos c59_2]; omega)
            | (unfold slS; rw [if_pos hal2, if_neg c59_0, if_pos c59_1]; omega)
            | (unfold slS; rw [if_pos hal2, if_pos c59_0]; omega)
          · first
            | omega
            | (unfold slS; rw [if_neg hal2, if_neg c59_0, if_neg c59_1, if_neg c59_2]; omega)
            | (unfold slS; rw [if_neg hal2, if_neg c59_0, if_neg c59_1, if_pos c59_2]; omega)
            | (unfold slS; rw [if_neg hal2, if_neg c59_0, if_pos c59_1]; omega)
            | (unfold slS; rw [if_neg hal2, if_pos c59_0]; omega)) (hP.sub [0, 1, 2, 3, 4, 5, 6, 7] rfl) (hD.sub [0, 1, 2, 3, 4, 5, 6, 7] (by decide) rfl) hS dX4_slotSide_127
      · skip
        refine lv_iload hx hb dX4_slotSide_120 (lv_at hl 0 rfl) ?_
        refine lv_goto (tgt := 126) hx hb dX4_slotSide_122 (by decide) ?_
        refine jv_iadd hx hb dX4_slotSide_126 ?_
        exact hret ((fy sx9) + at9) () _ _ _ _ (by
          rcases hal with ⟨hal, hal2⟩ | ⟨hal, hal2⟩
          · first
            | omega
            | (unfold slS; rw [if_pos hal2]; simp only [c59_0, c59_1, c59_2]; omega)
            | (unfold slS; rw [if_pos hal2, if_neg c59_0, if_neg c59_1, if_neg c59_2]; omega)
            | (unfold slS; rw [if_pos hal2, if_neg c59_0, if_neg c59_1, if_pos c59_2]; omega)
            | (unfold slS; rw [if_pos hal2, if_neg c59_0, if_pos c59_1]; omega)
            | (unfold slS; rw [if_pos hal2, if_pos c59_0]; omega)
          · first
            | omega
            | (unfold slS; rw [if_neg hal2, if_neg c59_0, if_neg c59_1, if_neg c59_2]; omega)
            | (unfold slS; rw [if_neg hal2, if_neg c59_0, if_neg c59_1, if_pos c59_2]; omega)
            | (unfold slS; rw [if_neg hal2, if_neg c59_0, if_pos c59_1]; omega)
            | (unfold slS; rw [if_neg hal2, if_pos c59_0]; omega)) (hP.sub [0, 1, 2, 3, 4, 5, 6, 7] rfl) (hD.sub [0, 1, 2, 3, 4, 5, 6, 7] (by decide) rfl) hS dX4_slotSide_127
    by_cases c59_2 : sd = 2
    · refine jv_tabIn (off := 69) (tgt := 128) hx hb ⟨by omega, by omega⟩ dX4_slotSide_59 (by omega) (by rw [c59_2]; rfl) (by decide) ?_
      refine lv_iload hx hb dX4_slotSide_128 (lv_at hl 1 rfl) ?_
      refine jv_if_eq (tgt := 147) hx hb ⟨by omega, by omega⟩ dX4_slotSide_130 (by decide) (fun c130 => ?_) (fun c130 => ?_)
      · skip
        refine lv_aload_n hx hb dX4_slotSide_147 rfl (lv_at hl 2 rfl) ?_
        refine va_get (D := D) (ci := 4) (v := .ref (ad 3)) (C := RX4) (T := TX4) (N := 19) hx hb hts inX4 hown hK hP 0 rfl rfl 3 (by decide) f31 (fun _ h9 => h9) rfl dX4_slotSide_148 ?_
        refine va_get (D := D) (ci := 0) (v := .ref (ad 32)) (C := RX0) (T := TX0) (N := 7) hx hb hts inX0 hown hK hP 1 rfl rfl 2 (by decide) f181 (fun _ h9 => h9) rfl dX4_slotSide_151 ?_
        refine lv_iload_n hx hb dX4_slotSide_154 rfl (lv_at hl 3 rfl) ?_
        refine jv_iald hx hb hK hP 4 0 rfl rfl (i := sx9) ⟨by omega, by omega⟩ (Nat.le_of_ble_eq_true rfl) dX4_slotSide_155 ?_
        refine lv_iload hx hb dX4_slotSide_156 (lv_at hl 0 rfl) ?_
        refine jv_iadd hx hb dX4_slotSide_158 ?_
        refine jv_iconst hx hb dX4_slotSide_159 ?_
        refine jv_iadd hx hb dX4_slotSide_160 ?_
        exact hret (((fx sx9) + at9) + 2) () _ _ _ _ (by
          rcases hal with ⟨hal, hal2⟩ | ⟨hal, hal2⟩
          · first
            | omega
            | (unfold slS; rw [if_pos hal2]; simp only [c59_0, c59_1, c59_2]; omega)
            | (unfold slS; rw [if_pos hal2, if_neg c59_0, if_neg c59_1, if_neg c59_2]; omega)
            | (unfold slS; rw [if_pos hal2, if_neg c59_0, if_neg c59_1, if_pos c59_2]; omega)
            | (unfold slS; rw [if_pos hal2, if_neg c59_0, if_pos c59_1]; omega)
            | (unfold slS; rw [if_pos hal2, if_pos c59_0]; omega)
          · first
            | omega
            | (unfold slS; rw [if_neg hal2, if_neg c59_0, if_neg c59_1, if_neg c59_2]; omega)
            | (unfold slS; rw [if_neg hal2, if_neg c59_0, if_neg c59_1, if_pos c59_2]; omega)
            | (unfold slS; rw [if_neg hal2, if_neg c59_0, if_pos c59_1]; omega)
            | (unfold slS; rw [if_neg hal2, if_pos c59_0]; omega)) (hP.sub [0, 1, 2, 3, 4, 5, 6, 7] rfl) (hD.sub [0, 1, 2, 3, 4, 5, 6, 7] (by decide) rfl) hS dX4_slotSide_161
      · skip
        refine lv_aload_n hx hb dX4_slotSide_133 rfl (lv_at hl 2 rfl) ?_
        refine va_get (D := D) (ci := 4) (v := .ref (ad 3)) (C := RX4) (T := TX4) (N := 19) hx hb hts inX4 hown hK hP 0 rfl rfl 3 (by decide) f31 (fun _ h9 => h9) rfl dX4_slotSide_134 ?_
        refine va_get (D := D) (ci := 0) (v := .ref (ad 34)) (C := RX0) (T := TX0) (N := 7) hx hb hts inX0 hown hK hP 1 rfl rfl 4 (by decide) f264 (fun _ h9 => h9) rfl dX4_slotSide_137 ?_
        refine lv_iload_n hx hb dX4_slotSide_140 rfl (lv_at hl 3 rfl) ?_
        refine jv_iald hx hb hK hP 6 0 rfl rfl (i := sx9) ⟨by omega, by omega⟩ (Nat.le_of_ble_eq_true rfl) dX4_slotSide_141 ?_
        refine lv_iload_n hx hb dX4_slotSide_142 rfl (lv_at hl 4 rfl) ?_
        refine jv_isub hx hb dX4_slotSide_143 ?_
        refine lv_goto (tgt := 161) hx hb dX4_slotSide_144 (by decide) ?_
        exact hret ((fu sx9) - w9) () _ _ _ _ (by
          rcases hal with ⟨hal, hal2⟩ | ⟨hal, hal2⟩
          · first
            | omega
            | (unfold slS; rw [if_pos hal2]; simp only [c59_0, c59_1, c59_2]; omega)
            | (unfold slS; rw [if_pos hal2, if_neg c59_0, if_neg c59_1, if_neg c59_2]; omega)
            | (unfold slS; rw [if_pos hal2, if_neg c59_0, if_neg c59_1, if_pos c59_2]; omega)
            | (unfold slS; rw [if_pos hal2, if_neg c59_0, if_pos c59_1]; omega)
            | (unfold slS; rw [if_pos hal2, if_pos c59_0]; omega)
          · first
            | omega
            | (unfold slS; rw [if_neg hal2, if_neg c59_0, if_neg c59_1, if_neg c59_2]; omega)
            | (unfold slS; rw [if_neg hal2, if_neg c59_0, if_neg c59_1, if_pos c59_2]; omega)
            | (unfold slS; rw [if_neg hal2, if_neg c59_0, if_pos c59_1]; omega)
            | (unfold slS; rw [if_neg hal2, if_pos c59_0]; omega)) (hP.sub [0, 1, 2, 3, 4, 5, 6, 7] rfl) (hD.sub [0, 1, 2, 3, 4, 5, 6, 7] (by decide) rfl) hS dX4_slotSide_161
    refine jv_tabOut (tgt := 162) hx hb ⟨by omega, by omega⟩ dX4_slotSide_59 (by omega) (by decide) ?_
    refine lv_iload hx hb dX4_slotSide_162 (lv_at hl 1 rfl) ?_
    refine jv_if_eq (tgt := 184) hx hb ⟨by omega, by omega⟩ dX4_slotSide_164 (by decide) (fun c164 => ?_) (fun c164 => ?_)
    · skip
      refine lv_aload_n hx hb dX4_slotSide_184 rfl (lv_at hl 2 rfl) ?_
      refine va_get (D := D) (ci := 4) (v := .ref (ad 3)) (C := RX4) (T := TX4) (N := 19) hx hb hts inX4 hown hK hP 0 rfl rfl 3 (by decide) f31 (fun _ h9 => h9) rfl dX4_slotSide_185 ?_
      refine va_get (D := D) (ci := 0) (v := .ref (ad 35)) (C := RX0) (T := TX0) (N := 7) hx hb hts inX0 hown hK hP 1 rfl rfl 5 (by decide) f267 (fun _ h9 => h9) rfl dX4_slotSide_188 ?_
      refine lv_iload_n hx hb dX4_slotSide_191 rfl (lv_at hl 3 rfl) ?_
      refine jv_iald hx hb hK hP 7 0 rfl rfl (i := sx9) ⟨by omega, by omega⟩ (Nat.le_of_ble_eq_true rfl) dX4_slotSide_192 ?_
      refine lv_iload_n hx hb dX4_slotSide_193 rfl (lv_at hl 4 rfl) ?_
      refine jv_isub hx hb dX4_slotSide_194 ?_
      exact hret ((fv sx9) - w9) () _ _ _ _ (by
        rcases hal with ⟨hal, hal2⟩ | ⟨hal, hal2⟩
        · first
          | omega
          | (unfold slS; rw [if_pos hal2]; simp only [c59_0, c59_1, c59_2]; omega)
          | (unfold slS; rw [if_pos hal2, if_neg c59_0, if_neg c59_1, if_neg c59_2]; omega)
          | (unfold slS; rw [if_pos hal2, if_neg c59_0, if_neg c59_1, if_pos c59_2]; omega)
          | (unfold slS; rw [if_pos hal2, if_neg c59_0, if_pos c59_1]; omega)
          | (unfold slS; rw [if_pos hal2, if_pos c59_0]; omega)
        · first
          | omega
          | (unfold slS; rw [if_neg hal2, if_neg c59_0, if_neg c59_1, if_neg c59_2]; omega)
          | (unfold slS; rw [if_neg hal2, if_neg c59_0, if_neg c59_1, if_pos c59_2]; omega)
          | (unfold slS; rw [if_neg hal2, if_neg c59_0, if_pos c59_1]; omega)
          | (unfold slS; rw [if_neg hal2, if_pos c59_0]; omega)) (hP.sub [0, 1, 2, 3, 4, 5, 6, 7] rfl) (hD.sub [0, 1, 2, 3, 4, 5, 6, 7] (by decide) rfl) hS dX4_slotSide_195
    · skip
      refine lv_aload_n hx hb dX4_slotSide_167 rfl (lv_at hl 2 rfl) ?_
      refine va_get (D := D) (ci := 4) (v := .ref (ad 3)) (C := RX4) (T := TX4) (N := 19) hx hb hts inX4 hown hK hP 0 rfl rfl 3 (by decide) f31 (fun _ h9 => h9) rfl dX4_slotSide_168 ?_
      refine va_get (D := D) (ci := 0) (v := .ref (ad 33)) (C := RX0) (T := TX0) (N := 7) hx hb hts inX0 hown hK hP 1 rfl rfl 3 (by decide) f184 (fun _ h9 => h9) rfl dX4_slotSide_171 ?_
      refine lv_iload_n hx hb dX4_slotSide_174 rfl (lv_at hl 3 rfl) ?_
      refine jv_iald hx hb hK hP 5 0 rfl rfl (i := sx9) ⟨by omega, by omega⟩ (Nat.le_of_ble_eq_true rfl) dX4_slotSide_175 ?_
      refine lv_iload hx hb dX4_slotSide_176 (lv_at hl 0 rfl) ?_
      refine jv_iadd hx hb dX4_slotSide_178 ?_
      refine jv_iconst hx hb dX4_slotSide_179 ?_
      refine jv_iadd hx hb dX4_slotSide_180 ?_
      refine lv_goto (tgt := 195) hx hb dX4_slotSide_181 (by decide) ?_
      exact hret (((fy sx9) + at9) + 2) () _ _ _ _ (by
        rcases hal with ⟨hal, hal2⟩ | ⟨hal, hal2⟩
        · first
          | omega
          | (unfold slS; rw [if_pos hal2]; simp only [c59_0, c59_1, c59_2]; omega)
          | (unfold slS; rw [if_pos hal2, if_neg c59_0, if_neg c59_1, if_neg c59_2]; omega)
          | (unfold slS; rw [if_pos hal2, if_neg c59_0, if_neg c59_1, if_pos c59_2]; omega)
          | (unfold slS; rw [if_pos hal2, if_neg c59_0, if_pos c59_1]; omega)
          | (unfold slS; rw [if_pos hal2, if_pos c59_0]; omega)
        · first
          | omega
          | (unfold slS; rw [if_neg hal2, if_neg c59_0, if_neg c59_1, if_neg c59_2]; omega)
          | (unfold slS; rw [if_neg hal2, if_neg c59_0, if_neg c59_1, if_pos c59_2]; omega)
          | (unfold slS; rw [if_neg hal2, if_neg c59_0, if_pos c59_1]; omega)
          | (unfold slS; rw [if_neg hal2, if_pos c59_0]; omega)) (hP.sub [0, 1, 2, 3, 4, 5, 6, 7] rfl) (hD.sub [0, 1, 2, 3, 4, 5, 6, 7] (by decide) rfl) hS dX4_slotSide_195
  refine lv_aload_n hx hb dX4_slotSide_0 rfl (lv_at hl 0 rfl) ?_
  refine va_get (D := D) (ci := 4) (v := .ref (ad 3)) (C := RX4) (T := TX4) (N := 19) hx hb hts inX4 hown hK hP 0 rfl rfl 3 (by decide) f31 (fun _ h9 => h9) rfl dX4_slotSide_1 ?_
  refine va_get (D := D) (ci := 0) (v := .ref (ad 34)) (C := RX0) (T := TX0) (N := 7) hx hb hts inX0 hown hK hP 1 rfl rfl 4 (by decide) f264 (fun _ h9 => h9) rfl dX4_slotSide_4 ?_
  refine lv_iload_n hx hb dX4_slotSide_7 rfl (lv_at hl 1 rfl) ?_
  refine jv_iald hx hb hK hP 6 0 rfl rfl (i := sx9) ⟨by omega, by omega⟩ (Nat.le_of_ble_eq_true rfl) dX4_slotSide_8 ?_
  refine lv_aload_n hx hb dX4_slotSide_9 rfl (lv_at hl 0 rfl) ?_
  refine va_get (D := D) (ci := 4) (v := .ref (ad 3)) (C := RX4) (T := TX4) (N := 19) hx hb hts inX4 hown hK hP 0 rfl rfl 3 (by decide) f31 (fun _ h9 => h9) rfl dX4_slotSide_10 ?_
  refine va_get (D := D) (ci := 0) (v := .ref (ad 32)) (C := RX0) (T := TX0) (N := 7) hx hb hts inX0 hown hK hP 1 rfl rfl 2 (by decide) f181 (fun _ h9 => h9) rfl dX4_slotSide_13 ?_
  refine lv_iload_n hx hb dX4_slotSide_16 rfl (lv_at hl 1 rfl) ?_
  refine jv_iald hx hb hK hP 4 0 rfl rfl (i := sx9) ⟨by omega, by omega⟩ (Nat.le_of_ble_eq_true rfl) dX4_slotSide_17 ?_
  refine jv_isub hx hb dX4_slotSide_18 ?_
  refine lv_aload_n hx hb dX4_slotSide_19 rfl (lv_at hl 0 rfl) ?_
  refine va_get (D := D) (ci := 4) (v := .ref (ad 3)) (C := RX4) (T := TX4) (N := 19) hx hb hts inX4 hown hK hP 0 rfl rfl 3 (by decide) f31 (fun _ h9 => h9) rfl dX4_slotSide_20 ?_
  refine va_get (D := D) (ci := 0) (v := .ref (ad 35)) (C := RX0) (T := TX0) (N := 7) hx hb hts inX0 hown hK hP 1 rfl rfl 5 (by decide) f267 (fun _ h9 => h9) rfl dX4_slotSide_23 ?_
  refine lv_iload_n hx hb dX4_slotSide_26 rfl (lv_at hl 1 rfl) ?_
  refine jv_iald hx hb hK hP 7 0 rfl rfl (i := sx9) ⟨by omega, by omega⟩ (Nat.le_of_ble_eq_true rfl) dX4_slotSide_27 ?_
  refine lv_aload_n hx hb dX4_slotSide_28 rfl (lv_at hl 0 rfl) ?_
  refine va_get (D := D) (ci := 4) (v := .ref (ad 3)) (C := RX4) (T := TX4) (N := 19) hx hb hts inX4 hown hK hP 0 rfl rfl 3 (by decide) f31 (fun _ h9 => h9) rfl dX4_slotSide_29 ?_
  refine va_get (D := D) (ci := 0) (v := .ref (ad 33)) (C := RX0) (T := TX0) (N := 7) hx hb hts inX0 hown hK hP 1 rfl rfl 3 (by decide) f184 (fun _ h9 => h9) rfl dX4_slotSide_32 ?_
  refine lv_iload_n hx hb dX4_slotSide_35 rfl (lv_at hl 1 rfl) ?_
  refine jv_iald hx hb hK hP 5 0 rfl rfl (i := sx9) ⟨by omega, by omega⟩ (Nat.le_of_ble_eq_true rfl) dX4_slotSide_36 ?_
  refine jv_isub hx hb dX4_slotSide_37 ?_
  refine jv_icmp_lt (tgt := 45) hx hb ⟨by omega, by omega⟩ ⟨by omega, by omega⟩ dX4_slotSide_38 (by decide) (fun c38 => ?_) (fun c38 => ?_)
  · skip
    refine jv_iconst hx hb dX4_slotSide_45 ?_
    exact J46 0 (by omega) _ _ _ (hP.sub [0, 1, 2, 3, 4, 5, 6, 7] rfl) (hD.sub [0, 1, 2, 3, 4, 5, 6, 7] (by decide) rfl) hS (lv_sub hl [0, 1, 2, 3, 4] rfl)
  · skip
    refine jv_iconst hx hb dX4_slotSide_41 ?_
    refine lv_goto (tgt := 46) hx hb dX4_slotSide_42 (by decide) ?_
    exact J46 1 (by omega) _ _ _ (hP.sub [0, 1, 2, 3, 4, 5, 6, 7] rfl) (hD.sub [0, 1, 2, 3, 4, 5, 6, 7] (by decide) rfl) hS (lv_sub hl [0, 1, 2, 3, 4] rfl)
