set_option maxHeartbeats 4000000 in
set_option maxRecDepth 100000 in
/-- Cover.open -/
theorem tX1_open (l : Launch) (D : va_G) (g : ClassId × ClassId × ClassId) (o : Nat) (a0 : Nat) (a1 : Nat) (a2 : Nat) (a3 : Nat) (a4 : Nat) (a5 : Nat) (a6 : Nat) (n : Nat) (gx : Int → Int) (gy : Int → Int) (gu : Int → Int) (gv : Int → Int) (gb : Int → Int) (gs : Int → Int) (gc : Int → Int) (sz : Int) (wx : Int) (wy : Int) (wd : Int) (hg : Int) (p0 : Int) (p1 : Int) (p2 : Int) (p3 : Int)  : jMv l D g yX1_open wsX1_open 1 21 [.ref o, .int (jI p0), .int (jI p1), .int (jI p2), .int (jI p3)] [(o, .inr (1, [.ref a0, .ref a1, .ref a2, .ref a3, .ref a4, .ref a5, .ref a6, .int (jI sz), .int (jI wx), .int (jI wy), .int (jI wd), .int (jI hg)])), (a0, .inl (g.1, n, .inl (aI gx))), (a1, .inl (g.1, n, .inl (aI gy))), (a2, .inl (g.1, n, .inl (aI gu))), (a3, .inl (g.1, n, .inl (aI gv))), (a4, .inl (g.1, n, .inl (aI gb))), (a5, .inl (g.1, 1001, .inl (aI gs))), (a6, .inl (g.2.2, 1001, .inl (aI gc)))] (S := Unit) (fun _ => True) (fun _ => [(o, .inr (1, [.ref a0, .ref a1, .ref a2, .ref a3, .ref a4, .ref a5, .ref a6, .int (jI 0), .int (jI p0), .int (jI p1), .int (jI (p2 - p0)), .int (jI (p3 - p1))])), (a0, .inl (g.1, n, .inl (aI gx))), (a1, .inl (g.1, n, .inl (aI gy))), (a2, .inl (g.1, n, .inl (aI gu))), (a3, .inl (g.1, n, .inl (aI gv))), (a4, .inl (g.1, n, .inl (aI gb))), (a5, .inl (g.1, 1001, .inl (aI gs))), (a6, .inl (g.2.2, 1001, .inl (aI gc)))]) := by
  refine jMv_of (cc := cX1_open) (maxL := 5) (by decide) rfl (Nat.le_of_ble_eq_true rfl) ?_
  intro p e s m args below meth c Q A hx hb hml hts hown hK hA hret ls hl hP hD
  have hS : va_S A s.heap s.heap [] := va_S.rf
  have hown : s.vm.findClass RX1 = some m.cls := hown
  have f34 := hts (.fieldLink RX1 34 "AntennaFill$Cover" "size" "I") (by decide +kernel)
  have f38 := hts (.fieldLink RX1 38 "AntennaFill$Cover" "windowX" "I") (by decide +kernel)
  have f41 := hts (.fieldLink RX1 41 "AntennaFill$Cover" "windowY" "I") (by decide +kernel)
  have f44 := hts (.fieldLink RX1 44 "AntennaFill$Cover" "wide" "I") (by decide +kernel)
  have f47 := hts (.fieldLink RX1 47 "AntennaFill$Cover" "high" "I") (by decide +kernel)
  have inX1 : ∀ w ∈ wsX10, w ∈ wsX1_open := by decide +kernel
  have hl : lv_has ls 5 [(0, .ref o), (1, .int (jI p0)), (2, .int (jI p1)), (3, .int (jI p2)), (4, .int (jI p3))] := hl
  refine lv_aload_n hx hb dX1_open_0 rfl (lv_at hl 0 rfl) ?_
  refine jv_iconst hx hb dX1_open_1 ?_
  refine va_put (D := D) (ci := 1) (v := .int (jI 0)) (ty := .int) (C := RX1) (T := TX1) (N := 12) hx hb hts inX1 tyX1 tyX1_ok nmX1 hown hK hP hD hS 0 rfl rfl 7 (by decide) f34 (fun _ h9 => h9) rfl (by decide +kernel) rfl rfl (Nat.le_of_ble_eq_true rfl) dX1_open_2 (fun H locs hP hD hS => ?_)
  have hP : va_P D jcl [(o, .inr (1, [.ref a0, .ref a1, .ref a2, .ref a3, .ref a4, .ref a5, .ref a6, .int (jI 0), .int (jI wx), .int (jI wy), .int (jI wd), .int (jI hg)])), (a0, .inl (g.1, n, .inl (aI gx))), (a1, .inl (g.1, n, .inl (aI gy))), (a2, .inl (g.1, n, .inl (aI gu))), (a3, .inl (g.1, n, .inl (aI gv))), (a4, .inl (g.1, n, .inl (aI gb))), (a5, .inl (g.1, 1001, .inl (aI gs))), (a6, .inl (g.2.2, 1001, .inl (aI gc)))] H := hP
  have hD : va_D A [(o, .inr (1, [.ref a0, .ref a1, .ref a2, .ref a3, .ref a4, .ref a5, .ref a6, .int (jI 0), .int (jI wx), .int (jI wy), .int (jI wd), .int (jI hg)])), (a0, .inl (g.1, n, .inl (aI gx))), (a1, .inl (g.1, n, .inl (aI gy))), (a2, .inl (g.1, n, .inl (aI gu))), (a3, .inl (g.1, n, .inl (aI gv))), (a4, .inl (g.1, n, .inl (aI gb))), (a5, .inl (g.1, 1001, .inl (aI gs))), (a6, .inl (g.2.2, 1001, .inl (aI gc)))] := hD
  refine lv_aload_n hx hb dX1_open_5 rfl (lv_at hl 0 rfl) ?_
  refine lv_iload_n hx hb dX1_open_6 rfl (lv_at hl 1 rfl) ?_
  refine va_put (D := D) (ci := 1) (v := .int (jI p0)) (ty := .int) (C := RX1) (T := TX1) (N := 12) hx hb hts inX1 tyX1 tyX1_ok nmX1 hown hK hP hD hS 0 rfl rfl 8 (by decide) f38 (fun _ h9 => h9) rfl (by decide +kernel) rfl rfl (Nat.le_of_ble_eq_true rfl) dX1_open_7 (fun H locs hP hD hS => ?_)
  have hP : va_P D jcl [(o, .inr (1, [.ref a0, .ref a1, .ref a2, .ref a3, .ref a4, .ref a5, .ref a6, .int (jI 0), .int (jI p0), .int (jI wy), .int (jI wd), .int (jI hg)])), (a0, .inl (g.1, n, .inl (aI gx))), (a1, .inl (g.1, n, .inl (aI gy))), (a2, .inl (g.1, n, .inl (aI gu))), (a3, .inl (g.1, n, .inl (aI gv))), (a4, .inl (g.1, n, .inl (aI gb))), (a5, .inl (g.1, 1001, .inl (aI gs))), (a6, .inl (g.2.2, 1001, .inl (aI gc)))] H := hP
  have hD : va_D A [(o, .inr (1, [.ref a0, .ref a1, .ref a2, .ref a3, .ref a4, .ref a5, .ref a6, .int (jI 0), .int (jI p0), .int (jI wy), .int (jI wd), .int (jI hg)])), (a0, .inl (g.1, n, .inl (aI gx))), (a1, .inl (g.1, n, .inl (aI gy))), (a2, .inl (g.1, n, .inl (aI gu))), (a3, .inl (g.1, n, .inl (aI gv))), (a4, .inl (g.1, n, .inl (aI gb))), (a5, .inl (g.1, 1001, .inl (aI gs))), (a6, .inl (g.2.2, 1001, .inl (aI gc)))] := hD
  refine lv_aload_n hx hb dX1_open_10 rfl (lv_at hl 0 rfl) ?_
  refine lv_iload_n hx hb dX1_open_11 rfl (lv_at hl 2 rfl) ?_
  refine va_put (D := D) (ci := 1) (v := .int (jI p1)) (ty := .int) (C := RX1) (T := TX1) (N := 12) hx hb hts inX1 tyX1 tyX1_ok nmX1 hown hK hP hD hS 0 rfl rfl 9 (by decide) f41 (fun _ h9 => h9) rfl (by decide +kernel) rfl rfl (Nat.le_of_ble_eq_true rfl) dX1_open_12 (fun H locs hP hD hS => ?_)
  have hP : va_P D jcl [(o, .inr (1, [.ref a0, .ref a1, .ref a2, .ref a3, .ref a4, .ref a5, .ref a6, .int (jI 0), .int (jI p0), .int (jI p1), .int (jI wd), .int (jI hg)])), (a0, .inl (g.1, n, .inl (aI gx))), (a1, .inl (g.1, n, .inl (aI gy))), (a2, .inl (g.1, n, .inl (aI gu))), (a3, .inl (g.1, n, .inl (aI gv))), (a4, .inl (g.1, n, .inl (aI gb))), (a5, .inl (g.1, 1001, .inl (aI gs))), (a6, .inl (g.2.2, 1001, .inl (aI gc)))] H := hP
  have hD : va_D A [(o, .inr (1, [.ref a0, .ref a1, .ref a2, .ref a3, .ref a4, .ref a5, .ref a6, .int (jI 0), .int (jI p0), .int (jI p1), .int (jI wd), .int (jI hg)])), (a0, .inl (g.1, n, .inl (aI gx))), (a1, .inl (g.1, n, .inl (aI gy))), (a2, .inl (g.1, n, .inl (aI gu))), (a3, .inl (g.1, n, .inl (aI gv))), (a4, .inl (g.1, n, .inl (aI gb))), (a5, .inl (g.1, 1001, .inl (aI gs))), (a6, .inl (g.2.2, 1001, .inl (aI gc)))] := hD
  refine lv_aload_n hx hb dX1_open_15 rfl (lv_at hl 0 rfl) ?_
  refine lv_iload_n hx hb dX1_open_16 rfl (lv_at hl 3 rfl) ?_
  refine lv_iload_n hx hb dX1_open_17 rfl (lv_at hl 1 rfl) ?_
  refine jv_isub hx hb dX1_open_18 ?_
  refine va_put (D := D) (ci := 1) (v := .int (jI (p2 - p0))) (ty := .int) (C := RX1) (T := TX1) (N := 12) hx hb hts inX1 tyX1 tyX1_ok nmX1 hown hK hP hD hS 0 rfl rfl 10 (by decide) f44 (fun _ h9 => h9) rfl (by decide +kernel) rfl rfl (Nat.le_of_ble_eq_true rfl) dX1_open_19 (fun H locs hP hD hS => ?_)
  have hP : va_P D jcl [(o, .inr (1, [.ref a0, .ref a1, .ref a2, .ref a3, .ref a4, .ref a5, .ref a6, .int (jI 0), .int (jI p0), .int (jI p1), .int (jI (p2 - p0)), .int (jI hg)])), (a0, .inl (g.1, n, .inl (aI gx))), (a1, .inl (g.1, n, .inl (aI gy))), (a2, .inl (g.1, n, .inl (aI gu))), (a3, .inl (g.1, n, .inl (aI gv))), (a4, .inl (g.1, n, .inl (aI gb))), (a5, .inl (g.1, 1001, .inl (aI gs))), (a6, .inl (g.2.2, 1001, .inl (aI gc)))] H := hP
  have hD : va_D A [(o, .inr (1, [.ref a0, .ref a1, .ref a2, .ref a3, .ref a4, .ref a5, .ref a6, .int (jI 0), .int (jI p0), .int (jI p1), .int (jI (p2 - p0)), .int (jI hg)])), (a0, .inl (g.1, n, .inl (aI gx))), (a1, .inl (g.1, n, .inl (aI gy))), (a2, .inl (g.1, n, .inl (aI gu))), (a3, .inl (g.1, n, .inl (aI gv))), (a4, .inl (g.1, n, .inl (aI gb))), (a5, .inl (g.1, 1001, .inl (aI gs))), (a6, .inl (g.2.2, 1001, .inl (aI gc)))] := hD
  refine lv_aload_n hx hb dX1_open_22 rfl (lv_at hl 0 rfl) ?_
  refine lv_iload hx hb dX1_open_23 (lv_at hl 4 rfl) ?_
  refine lv_iload_n hx hb dX1_open_25 rfl (lv_at hl 2 rfl) ?_
  refine jv_isub hx hb dX1_open_26 ?_
  refine va_put (D := D) (ci := 1) (v := .int (jI (p3 - p1))) (ty := .int) (C := RX1) (T := TX1) (N := 12) hx hb hts inX1 tyX1 tyX1_ok nmX1 hown hK hP hD hS 0 rfl rfl 11 (by decide) f47 (fun _ h9 => h9) rfl (by decide +kernel) rfl rfl (Nat.le_of_ble_eq_true rfl) dX1_open_27 (fun H locs hP hD hS => ?_)
  have hP : va_P D jcl [(o, .inr (1, [.ref a0, .ref a1, .ref a2, .ref a3, .ref a4, .ref a5, .ref a6, .int (jI 0), .int (jI p0), .int (jI p1), .int (jI (p2 - p0)), .int (jI (p3 - p1))])), (a0, .inl (g.1, n, .inl (aI gx))), (a1, .inl (g.1, n, .inl (aI gy))), (a2, .inl (g.1, n, .inl (aI gu))), (a3, .inl (g.1, n, .inl (aI gv))), (a4, .inl (g.1, n, .inl (aI gb))), (a5, .inl (g.1, 1001, .inl (aI gs))), (a6, .inl (g.2.2, 1001, .inl (aI gc)))] H := hP
  have hD : va_D A [(o, .inr (1, [.ref a0, .ref a1, .ref a2, .ref a3, .ref a4, .ref a5, .ref a6, .int (jI 0), .int (jI p0), .int (jI p1), .int (jI (p2 - p0)), .int (jI (p3 - p1))])), (a0, .inl (g.1, n, .inl (aI gx))), (a1, .inl (g.1, n, .inl (aI gy))), (a2, .inl (g.1, n, .inl (aI gu))), (a3, .inl (g.1, n, .inl (aI gv))), (a4, .inl (g.1, n, .inl (aI gb))), (a5, .inl (g.1, 1001, .inl (aI gs))), (a6, .inl (g.2.2, 1001, .inl (aI gc)))] := hD
  exact hret  () _ _ _ _ (trivial) (hP.sub [0, 1, 2, 3, 4, 5, 6, 7] rfl) (hD.sub [0, 1, 2, 3, 4, 5, 6, 7] (by decide) rfl) hS dX1_open_30

set_option maxHeartbeats 4000000 in
set_option maxRecDepth 100000 in
/-- Cover.takeClipped -/
theorem tX1_takeClipped (l : Launch) (D : va_G) (g : ClassId × ClassId × ClassId) (o : Nat) (a0 : Nat) (a1 : Nat) (a2 : Nat) (a3 : Nat) (a4 : Nat) (a5 : Nat) (a6 : Nat) (n : Nat) (gx : Int → Int) (gy : Int → Int) (gu : Int → Int) (gv : Int → Int) (gb : Int → Int) (gs : Int → Int) (gc : Int → Int) (sz : Int) (wx : Int) (wy : Int) (wd : Int) (hg : Int) (R : List jQ) (q : jQ) (p0 : Int) (p1 : Int) (p2 : Int) (p3 : Int) (hn : n < 2147483648 ∧ (R.length : Int) < (n : Int)) (hpq : q.2.2.1 = p0 ∧ q.2.2.2.1 = p1 ∧ q.2.2.2.2.1 = p2 ∧ q.2.2.2.2.2 = p3 ∧ okQ q) (hcv : cv gx gy gu gv sz wx wy wd hg R) : jMv l D g yX1_takeClipped wsX1_takeClipped 1 26 [.ref o, .int (jI p0), .int (jI p1), .int (jI p2), .int (jI p3)] [(o, .inr (1, [.ref a0, .ref a1, .ref a2, .ref a3, .ref a4, .ref a5, .ref a6, .int (jI sz), .int (jI wx), .int (jI wy), .int (jI wd), .int (jI hg)])), (a0, .inl (g.1, n, .inl (aI gx))), (a1, .inl (g.1, n, .inl (aI gy))), (a2, .inl (g.1, n, .inl (aI gu))), (a3, .inl (g.1, n, .inl (aI gv))), (a4, .inl (g.1, n, .inl (aI gb))), (a5, .inl (g.1, 1001, .inl (aI gs))), (a6, .inl (g.2.2, 1001, .inl (aI gc)))] (S := (Int → Int) × (Int → Int) × (Int → Int) × (Int → Int) × Int) (fun u => cv u.1 u.2.1 u.2.2.1 u.2.2.2.1 u.2.2.2.2 wx wy wd hg (R ++ [q])) (fun u => [(o, .inr (1, [.ref a0, .ref a1, .ref a2, .ref a3, .ref a4, .ref a5, .ref a6, .int (jI u.2.2.2.2), .int (jI wx), .int (jI wy), .int (jI wd), .int (jI hg)])), (a0, .inl (g.1, n, .inl (aI u.1))), (a1, .inl (g.1, n, .inl (aI u.2.1))), (a2, .inl (g.1, n, .inl (aI u.2.2.1))), (a3, .inl (g.1, n, .inl (aI u.2.2.2.1))), (a4, .inl (g.1, n, .inl (aI gb))), (a5, .inl (g.1, 1001, .inl (aI gs))), (a6, .inl (g.2.2, 1001, .inl (aI gc)))]) := by
  refine jMv_of (cc := cX1_takeClipped) (maxL := 9) (by decide) rfl (Nat.le_of_ble_eq_true rfl) ?_
  intro p e s m args below meth c Q A hx hb hml hts hown hK hA hret ls hl hP hD
  have hS : va_S A s.heap s.heap [] := va_S.rf
  have hown : s.vm.findClass RX1 = some m.cls := hown
  have f9 := hts (.fieldLink RX1 9 "AntennaFill$Cover" "x0" "[I") (by decide +kernel)
  have f15 := hts (.fieldLink RX1 15 "AntennaFill$Cover" "y0" "[I") (by decide +kernel)
  have f18 := hts (.fieldLink RX1 18 "AntennaFill$Cover" "x1" "[I") (by decide +kernel)
  have f21 := hts (.fieldLink RX1 21 "AntennaFill$Cover" "y1" "[I") (by decide +kernel)
  have f34 := hts (.fieldLink RX1 34 "AntennaFill$Cover" "size" "I") (by decide +kernel)
  have f38 := hts (.fieldLink RX1 38 "AntennaFill$Cover" "windowX" "I") (by decide +kernel)
  have f41 := hts (.fieldLink RX1 41 "AntennaFill$Cover" "windowY" "I") (by decide +kernel)
  have f44 := hts (.fieldLink RX1 44 "AntennaFill$Cover" "wide" "I") (by decide +kernel)
  have f47 := hts (.fieldLink RX1 47 "AntennaFill$Cover" "high" "I") (by decide +kernel)
  have inX1 : ∀ w ∈ wsX10, w ∈ wsX1_takeClipped := by decide +kernel
  have m67 := hts (.methodLink RX1 67 Lib.Math.max.name) (by decide +kernel)
  have s67 := hts (.static Lib.Math.max.name) (by decide +kernel)
  have c67 := hts (.code Lib.Math.max.name Lib.Math.max.code 2 (some .int)) (by decide +kernel)
  have m73 := hts (.methodLink RX1 73 Lib.Math.min.name) (by decide +kernel)
  have s73 := hts (.static Lib.Math.min.name) (by decide +kernel)
  have c73 := hts (.code Lib.Math.min.name Lib.Math.min.code 2 (some .int)) (by decide +kernel)
  have iM := hts (.initialized "java/lang/Math") (by decide +kernel)
  have hl : lv_has ls 9 [(0, .ref o), (1, .int (jI p0)), (2, .int (jI p1)), (3, .int (jI p2)), (4, .int (jI p3))] := hl
  have hcw := hcv.2.1
  have hcz := hcv.2.2.1
  have hcr := hcv.2.2.2.1
  have hco := hcv.1
  have hok := hpq.2.2.2.2
  unfold okQ at hok
  refine jv_iconst hx hb dX1_takeClipped_0 ?_
  refine lv_iload_n hx hb dX1_takeClipped_1 rfl (lv_at hl 1 rfl) ?_
  refine lv_aload_n hx hb dX1_takeClipped_2 rfl (lv_at hl 0 rfl) ?_
  refine va_get (D := D) (ci := 1) (v := .int (jI wx)) (C := RX1) (T := TX1) (N := 12) hx hb hts inX1 hown hK hP 0 rfl rfl 8 (by decide) f38 (fun _ h9 => h9) rfl dX1_takeClipped_3 ?_
  refine jv_isub hx hb dX1_takeClipped_6 ?_
  refine jv_max hx hb (hml.trans hl.1.symm) hown m67 s67 iM c67 (Nat.le_of_ble_eq_true rfl) (Nat.le_of_ble_eq_true rfl) (Nat.le_refl 0) (Nat.le_refl 0) ⟨by decide, by decide⟩ ⟨by omega, by omega⟩ dX1_takeClipped_7 (fun z0 ez0 => ?_)
  refine lv_istore (lv' := [(5, .int (jI z0)), (0, .ref o), (1, .int (jI p0)), (2, .int (jI p1)), (3, .int (jI p2)), (4, .int (jI p3))]) hx hb dX1_takeClipped_10 hl (by decide) rfl (fun ls hl => ?_)
  refine jv_iconst hx hb dX1_takeClipped_12 ?_
  refine lv_iload_n hx hb dX1_takeClipped_13 rfl (lv_at hl 3 rfl) ?_
  refine lv_aload_n hx hb dX1_takeClipped_14 rfl (lv_at hl 1 rfl) ?_
  refine va_get (D := D) (ci := 1) (v := .int (jI wy)) (C := RX1) (T := TX1) (N := 12) hx hb hts inX1 hown hK hP 0 rfl rfl 9 (by decide) f41 (fun _ h9 => h9) rfl dX1_takeClipped_15 ?_
  refine jv_isub hx hb dX1_takeClipped_18 ?_
  refine jv_max hx hb (hml.trans hl.1.symm) hown m67 s67 iM c67 (Nat.le_of_ble_eq_true rfl) (Nat.le_of_ble_eq_true rfl) (Nat.le_refl 0) (Nat.le_refl 0) ⟨by decide, by decide⟩ ⟨by omega, by omega⟩ dX1_takeClipped_19 (fun z1 ez1 => ?_)
  refine lv_istore (lv' := [(6, .int (jI z1)), (5, .int (jI z0)), (0, .ref o), (1, .int (jI p0)), (2, .int (jI p1)), (3, .int (jI p2)), (4, .int (jI p3))]) hx hb dX1_takeClipped_22 hl (by decide) rfl (fun ls hl => ?_)
  refine lv_aload_n hx hb dX1_takeClipped_24 rfl (lv_at hl 2 rfl) ?_
  refine va_get (D := D) (ci := 1) (v := .int (jI wd)) (C := RX1) (T := TX1) (N := 12) hx hb hts inX1 hown hK hP 0 rfl rfl 10 (by decide) f44 (fun _ h9 => h9) rfl dX1_takeClipped_25 ?_
  refine lv_iload_n hx hb dX1_takeClipped_28 rfl (lv_at hl 5 rfl) ?_
  refine lv_aload_n hx hb dX1_takeClipped_29 rfl (lv_at hl 2 rfl) ?_
  refine va_get (D := D) (ci := 1) (v := .int (jI wx)) (C := RX1) (T := TX1) (N := 12) hx hb hts inX1 hown hK hP 0 rfl rfl 8 (by decide) f38 (fun _ h9 => h9) rfl dX1_takeClipped_30 ?_
  refine jv_isub hx hb dX1_takeClipped_33 ?_
  refine jv_min hx hb (hml.trans hl.1.symm) hown m73 s73 iM c73 (Nat.le_of_ble_eq_true rfl) (Nat.le_of_ble_eq_true rfl) (Nat.le_refl 0) (Nat.le_refl 0) ⟨by omega, by omega⟩ ⟨by omega, by omega⟩ dX1_takeClipped_34 (fun z2 ez2 => ?_)
  refine lv_istore (lv' := [(7, .int (jI z2)), (6, .int (jI z1)), (5, .int (jI z0)), (0, .ref o), (1, .int (jI p0)), (2, .int (jI p1)), (3, .int (jI p2)), (4, .int (jI p3))]) hx hb dX1_takeClipped_37 hl (by decide) rfl (fun ls hl => ?_)
  refine lv_aload_n hx hb dX1_takeClipped_39 rfl (lv_at hl 3 rfl) ?_
  refine va_get (D := D) (ci := 1) (v := .int (jI hg)) (C := RX1) (T := TX1) (N := 12) hx hb hts inX1 hown hK hP 0 rfl rfl 11 (by decide) f47 (fun _ h9 => h9) rfl dX1_takeClipped_40 ?_
  refine lv_iload hx hb dX1_takeClipped_43 (lv_at hl 7 rfl) ?_
  refine lv_aload_n hx hb dX1_takeClipped_45 rfl (lv_at hl 3 rfl) ?_
  refine va_get (D := D) (ci := 1) (v := .int (jI wy)) (C := RX1) (T := TX1) (N := 12) hx hb hts inX1 hown hK hP 0 rfl rfl 9 (by decide) f41 (fun _ h9 => h9) rfl dX1_takeClipped_46 ?_
  refine jv_isub hx hb dX1_takeClipped_49 ?_
  refine jv_min hx hb (hml.trans hl.1.symm) hown m73 s73 iM c73 (Nat.le_of_ble_eq_true rfl) (Nat.le_of_ble_eq_true rfl) (Nat.le_refl 0) (Nat.le_refl 0) ⟨by omega, by omega⟩ ⟨by omega, by omega⟩ dX1_takeClipped_50 (fun z3 ez3 => ?_)
  refine lv_istore (lv' := [(8, .int (jI z3)), (7, .int (jI z2)), (6, .int (jI z1)), (5, .int (jI z0)), (0, .ref o), (1, .int (jI p0)), (2, .int (jI p1)), (3, .int (jI p2)), (4, .int (jI p3))]) hx hb dX1_takeClipped_53 hl (by decide) rfl (fun ls hl => ?_)
  refine lv_iload hx hb dX1_takeClipped_55 (lv_at hl 3 rfl) ?_
  refine lv_iload hx hb dX1_takeClipped_57 (lv_at hl 1 rfl) ?_
  refine jv_icmp_ge (tgt := 135) hx hb ⟨by omega, by omega⟩ ⟨by omega, by omega⟩ dX1_takeClipped_59 (by decide) (fun c59 => ?_) (fun c59 => ?_)
  · skip
    exact hret  (gx, gy, gu, gv, sz) _ _ _ _ (by
      have hok := hpq.2.2.2.2
      unfold okQ at hok
      refine cv_no hcv fun x y a1 a2 a3 a4 => ?_
      unfold inQ
      exact dec_f (by omega)) (hP.sub [0, 1, 2, 3, 4, 5, 6, 7] rfl) (hD.sub [0, 1, 2, 3, 4, 5, 6, 7] (by decide) rfl) hS dX1_takeClipped_135
  · skip
    refine lv_iload hx hb dX1_takeClipped_62 (lv_at hl 2 rfl) ?_
    refine lv_iload hx hb dX1_takeClipped_64 (lv_at hl 0 rfl) ?_
    refine jv_icmp_ge (tgt := 135) hx hb ⟨by omega, by omega⟩ ⟨by omega, by omega⟩ dX1_takeClipped_66 (by decide) (fun c66 => ?_) (fun c66 => ?_)
    · skip
      exact hret  (gx, gy, gu, gv, sz) _ _ _ _ (by
      have hok := hpq.2.2.2.2
      unfold okQ at hok
      refine cv_no hcv fun x y a1 a2 a3 a4 => ?_
      unfold inQ
      exact dec_f (by omega)) (hP.sub [0, 1, 2, 3, 4, 5, 6, 7] rfl) (hD.sub [0, 1, 2, 3, 4, 5, 6, 7] (by decide) rfl) hS dX1_takeClipped_135
    · skip
      refine lv_aload_n hx hb dX1_takeClipped_69 rfl (lv_at hl 4 rfl) ?_
      refine va_get (D := D) (ci := 1) (v := .int (jI sz)) (C := RX1) (T := TX1) (N := 12) hx hb hts inX1 hown hK hP 0 rfl rfl 7 (by decide) f34 (fun _ h9 => h9) rfl dX1_takeClipped_70 ?_
      refine lv_aload_n hx hb dX1_takeClipped_73 rfl (lv_at hl 4 rfl) ?_
      refine va_get (D := D) (ci := 1) (v := .ref a0) (C := RX1) (T := TX1) (N := 12) hx hb hts inX1 hown hK hP 0 rfl rfl 0 (by decide) f9 (fun _ h9 => h9) rfl dX1_takeClipped_74 ?_
      refine jv_alen hx hb hK hP 1 0 rfl rfl dX1_takeClipped_77 ?_
      refine jv_top (b := (n : Int)) (by first | rfl | omega) ?_
      refine jv_icmp_ge (tgt := 135) hx hb ⟨by omega, by omega⟩ ⟨by omega, by omega⟩ dX1_takeClipped_78 (by decide) (fun c78 => ?_) (fun c78 => ?_)
      · exfalso; omega
      · skip
        refine lv_aload_n hx hb dX1_takeClipped_81 rfl (lv_at hl 4 rfl) ?_
        refine va_get (D := D) (ci := 1) (v := .ref a0) (C := RX1) (T := TX1) (N := 12) hx hb hts inX1 hown hK hP 0 rfl rfl 0 (by decide) f9 (fun _ h9 => h9) rfl dX1_takeClipped_82 ?_
        refine lv_aload_n hx hb dX1_takeClipped_85 rfl (lv_at hl 4 rfl) ?_
        refine va_get (D := D) (ci := 1) (v := .int (jI sz)) (C := RX1) (T := TX1) (N := 12) hx hb hts inX1 hown hK hP 0 rfl rfl 7 (by decide) f34 (fun _ h9 => h9) rfl dX1_takeClipped_86 ?_
        refine lv_iload hx hb dX1_takeClipped_89 (lv_at hl 3 rfl) ?_
        refine jv_iast hx hb hK hP hD hS 1 0 rfl rfl (i := sz) (x := z0) ⟨by omega, by omega⟩ hn.1 dX1_takeClipped_91 (fun H locs hP hD hS => ?_)
        have hP : va_P D jcl [(o, .inr (1, [.ref a0, .ref a1, .ref a2, .ref a3, .ref a4, .ref a5, .ref a6, .int (jI sz), .int (jI wx), .int (jI wy), .int (jI wd), .int (jI hg)])), (a0, .inl (g.1, n, .inl (aI (upI gx sz z0)))), (a1, .inl (g.1, n, .inl (aI gy))), (a2, .inl (g.1, n, .inl (aI gu))), (a3, .inl (g.1, n, .inl (aI gv))), (a4, .inl (g.1, n, .inl (aI gb))), (a5, .inl (g.1, 1001, .inl (aI gs))), (a6, .inl (g.2.2, 1001, .inl (aI gc)))] H := hP
        have hD : va_D A [(o, .inr (1, [.ref a0, .ref a1, .ref a2, .ref a3, .ref a4, .ref a5, .ref a6, .int (jI sz), .int (jI wx), .int (jI wy), .int (jI wd), .int (jI hg)])), (a0, .inl (g.1, n, .inl (aI (upI gx sz z0)))), (a1, .inl (g.1, n, .inl (aI gy))), (a2, .inl (g.1, n, .inl (aI gu))), (a3, .inl (g.1, n, .inl (aI gv))), (a4, .inl (g.1, n, .inl (aI gb))), (a5, .inl (g.1, 1001, .inl (aI gs))), (a6, .inl (g.2.2, 1001, .inl (aI gc)))] := hD
        refine lv_aload_n hx hb dX1_takeClipped_92 rfl (lv_at hl 4 rfl) ?_
        refine va_get (D := D) (ci := 1) (v := .ref a1) (C := RX1) (T := TX1) (N := 12) hx hb hts inX1 hown hK hP 0 rfl rfl 1 (by decide) f15 (fun _ h9 => h9) rfl dX1_takeClipped_93 ?_
        refine lv_aload_n hx hb dX1_takeClipped_96 rfl (lv_at hl 4 rfl) ?_
        refine va_get (D := D) (ci := 1) (v := .int (jI sz)) (C := RX1) (T := TX1) (N := 12) hx hb hts inX1 hown hK hP 0 rfl rfl 7 (by decide) f34 (fun _ h9 => h9) rfl dX1_takeClipped_97 ?_
        refine lv_iload hx hb dX1_takeClipped_100 (lv_at hl 2 rfl) ?_
        refine jv_iast hx hb hK hP hD hS 2 0 rfl rfl (i := sz) (x := z1) ⟨by omega, by omega⟩ hn.1 dX1_takeClipped_102 (fun H locs hP hD hS => ?_)
        have hP : va_P D jcl [(o, .inr (1, [.ref a0, .ref a1, .ref a2, .ref a3, .ref a4, .ref a5, .ref a6, .int (jI sz), .int (jI wx), .int (jI wy), .int (jI wd), .int (jI hg)])), (a0, .inl (g.1, n, .inl (aI (upI gx sz z0)))), (a1, .inl (g.1, n, .inl (aI (upI gy sz z1)))), (a2, .inl (g.1, n, .inl (aI gu))), (a3, .inl (g.1, n, .inl (aI gv))), (a4, .inl (g.1, n, .inl (aI gb))), (a5, .inl (g.1, 1001, .inl (aI gs))), (a6, .inl (g.2.2, 1001, .inl (aI gc)))] H := hP
        have hD : va_D A [(o, .inr (1, [.ref a0, .ref a1, .ref a2, .ref a3, .ref a4, .ref a5, .ref a6, .int (jI sz), .int (jI wx), .int (jI wy), .int (jI wd), .int (jI hg)])), (a0, .inl (g.1, n, .inl (aI (upI gx sz z0)))), (a1, .inl (g.1, n, .inl (aI (upI gy sz z1)))), (a2, .inl (g.1, n, .inl (aI gu))), (a3, .inl (g.1, n, .inl (aI gv))), (a4, .inl (g.1, n, .inl (aI gb))), (a5, .inl (g.1, 1001, .inl (aI gs))), (a6, .inl (g.2.2, 1001, .inl (aI gc)))] := hD
        refine lv_aload_n hx hb dX1_takeClipped_103 rfl (lv_at hl 4 rfl) ?_
        refine va_get (D := D) (ci := 1) (v := .ref a2) (C := RX1) (T := TX1) (N := 12) hx hb hts inX1 hown hK hP 0 rfl rfl 2 (by decide) f18 (fun _ h9 => h9) rfl dX1_takeClipped_104 ?_
        refine lv_aload_n hx hb dX1_takeClipped_107 rfl (lv_at hl 4 rfl) ?_
        refine va_get (D := D) (ci := 1) (v := .int (jI sz)) (C := RX1) (T := TX1) (N := 12) hx hb hts inX1 hown hK hP 0 rfl rfl 7 (by decide) f34 (fun _ h9 => h9) rfl dX1_takeClipped_108 ?_
        refine lv_iload hx hb dX1_takeClipped_111 (lv_at hl 1 rfl) ?_
        refine jv_iast hx hb hK hP hD hS 3 0 rfl rfl (i := sz) (x := z2) ⟨by omega, by omega⟩ hn.1 dX1_takeClipped_113 (fun H locs hP hD hS => ?_)
        have hP : va_P D jcl [(o, .inr (1, [.ref a0, .ref a1, .ref a2, .ref a3, .ref a4, .ref a5, .ref a6, .int (jI sz), .int (jI wx), .int (jI wy), .int (jI wd), .int (jI hg)])), (a0, .inl (g.1, n, .inl (aI (upI gx sz z0)))), (a1, .inl (g.1, n, .inl (aI (upI gy sz z1)))), (a2, .inl (g.1, n, .inl (aI (upI gu sz z2)))), (a3, .inl (g.1, n, .inl (aI gv))), (a4, .inl (g.1, n, .inl (aI gb))), (a5, .inl (g.1, 1001, .inl (aI gs))), (a6, .inl (g.2.2, 1001, .inl (aI gc)))] H := hP
        have hD : va_D A [(o, .inr (1, [.ref a0, .ref a1, .ref a2, .ref a3, .ref a4, .ref a5, .ref a6, .int (jI sz), .int (jI wx), .int (jI wy), .int (jI wd), .int (jI hg)])), (a0, .inl (g.1, n, .inl (aI (upI gx sz z0)))), (a1, .inl (g.1, n, .inl (aI (upI gy sz z1)))), (a2, .inl (g.1, n, .inl (aI (upI gu sz z2)))), (a3, .inl (g.1, n, .inl (aI gv))), (a4, .inl (g.1, n, .inl (aI gb))), (a5, .inl (g.1, 1001, .inl (aI gs))), (a6, .inl (g.2.2, 1001, .inl (aI gc)))] := hD
        refine lv_aload_n hx hb dX1_takeClipped_114 rfl (lv_at hl 4 rfl) ?_
        refine va_get (D := D) (ci := 1) (v := .ref a3) (C := RX1) (T := TX1) (N := 12) hx hb hts inX1 hown hK hP 0 rfl rfl 3 (by decide) f21 (fun _ h9 => h9) rfl dX1_takeClipped_115 ?_
        refine lv_aload_n hx hb dX1_takeClipped_118 rfl (lv_at hl 4 rfl) ?_
        refine va_get (D := D) (ci := 1) (v := .int (jI sz)) (C := RX1) (T := TX1) (N := 12) hx hb hts inX1 hown hK hP 0 rfl rfl 7 (by decide) f34 (fun _ h9 => h9) rfl dX1_takeClipped_119 ?_
        refine lv_iload hx hb dX1_takeClipped_122 (lv_at hl 0 rfl) ?_
        refine jv_iast hx hb hK hP hD hS 4 0 rfl rfl (i := sz) (x := z3) ⟨by omega, by omega⟩ hn.1 dX1_takeClipped_124 (fun H locs hP hD hS => ?_)
        have hP : va_P D jcl [(o, .inr (1, [.ref a0, .ref a1, .ref a2, .ref a3, .ref a4, .ref a5, .ref a6, .int (jI sz), .int (jI wx), .int (jI wy), .int (jI wd), .int (jI hg)])), (a0, .inl (g.1, n, .inl (aI (upI gx sz z0)))), (a1, .inl (g.1, n, .inl (aI (upI gy sz z1)))), (a2, .inl (g.1, n, .inl (aI (upI gu sz z2)))), (a3, .inl (g.1, n, .inl (aI (upI gv sz z3)))), (a4, .inl (g.1, n, .inl (aI gb))), (a5, .inl (g.1, 1001, .inl (aI gs))), (a6, .inl (g.2.2, 1001, .inl (aI gc)))] H := hP
        have hD : va_D A [(o, .inr (1, [.ref a0, .ref a1, .ref a2, .ref a3, .ref a4, .ref a5, .ref a6, .int (jI sz), .int (jI wx), .int (jI wy), .int (jI wd), .int (jI hg)])), (a0, .inl (g.1, n, .inl (aI (upI gx sz z0)))), (a1, .inl (g.1, n, .inl (aI (upI gy sz z1)))), (a2, .inl (g.1, n, .inl (aI (upI gu sz z2)))), (a3, .inl (g.1, n, .inl (aI (upI gv sz z3)))), (a4, .inl (g.1, n, .inl (aI gb))), (a5, .inl (g.1, 1001, .inl (aI gs))), (a6, .inl (g.2.2, 1001, .inl (aI gc)))] := hD
        refine lv_aload_n hx hb dX1_takeClipped_125 rfl (lv_at hl 4 rfl) ?_
        refine lv_dup hx hb dX1_takeClipped_126 rfl ?_
        refine va_get (D := D) (ci := 1) (v := .int (jI sz)) (C := RX1) (T := TX1) (N := 12) hx hb hts inX1 hown hK hP 0 rfl rfl 7 (by decide) f34 (fun _ h9 => h9) rfl dX1_takeClipped_127 ?_
        refine jv_iconst hx hb dX1_takeClipped_130 ?_
        refine jv_iadd hx hb dX1_takeClipped_131 ?_
        refine va_put (D := D) (ci := 1) (v := .int (jI (sz + 1))) (ty := .int) (C := RX1) (T := TX1) (N := 12) hx hb hts inX1 tyX1 tyX1_ok nmX1 hown hK hP hD hS 0 rfl rfl 7 (by decide) f34 (fun _ h9 => h9) rfl (by decide +kernel) rfl rfl (Nat.le_of_ble_eq_true rfl) dX1_takeClipped_132 (fun H locs hP hD hS => ?_)
        have hP : va_P D jcl [(o, .inr (1, [.ref a0, .ref a1, .ref a2, .ref a3, .ref a4, .ref a5, .ref a6, .int (jI (sz + 1)), .int (jI wx), .int (jI wy), .int (jI wd), .int (jI hg)])), (a0, .inl (g.1, n, .inl (aI (upI gx sz z0)))), (a1, .inl (g.1, n, .inl (aI (upI gy sz z1)))), (a2, .inl (g.1, n, .inl (aI (upI gu sz z2)))), (a3, .inl (g.1, n, .inl (aI (upI gv sz z3)))), (a4, .inl (g.1, n, .inl (aI gb))), (a5, .inl (g.1, 1001, .inl (aI gs))), (a6, .inl (g.2.2, 1001, .inl (aI gc)))] H := hP
        have hD : va_D A [(o, .inr (1, [.ref a0, .ref a1, .ref a2, .ref a3, .ref a4, .ref a5, .ref a6, .int (jI (sz + 1)), .int (jI wx), .int (jI wy), .int (jI wd), .int (jI hg)])), (a0, .inl (g.1, n, .inl (aI (upI gx sz z0)))), (a1, .inl (g.1, n, .inl (aI (upI gy sz z1)))), (a2, .inl (g.1, n, .inl (aI (upI gu sz z2)))), (a3, .inl (g.1, n, .inl (aI (upI gv sz z3)))), (a4, .inl (g.1, n, .inl (aI gb))), (a5, .inl (g.1, 1001, .inl (aI gs))), (a6, .inl (g.2.2, 1001, .inl (aI gc)))] := hD
        exact hret  (upI gx sz z0, upI gy sz z1, upI gu sz z2, upI gv sz z3, sz + 1) _ _ _ _ (cv_add hcv (by omega) (by omega) (by omega) (by omega) (by omega) (by omega)) (hP.sub [0, 1, 2, 3, 4, 5, 6, 7] rfl) (hD.sub [0, 1, 2, 3, 4, 5, 6, 7] (by decide) rfl) hS dX1_takeClipped_135

set_option maxHeartbeats 4000000 in
set_option maxRecDepth 100000 in
/-- Cover.take -/
theorem tX1_take (l : Launch) (D : va_G) (g : ClassId × ClassId × ClassId) (o : Nat) (a0 : Nat) (a1 : Nat) (a2 : Nat) (a3 : Nat) (a4 : Nat) (a5 : Nat) (a6 : Nat) (n : Nat) (gx : Int → Int) (gy : Int → Int) (gu : Int → Int) (gv : Int → Int) (gb : Int → Int) (gs : Int → Int) (gc : Int → Int) (sz : Int) (wx : Int) (wy : Int) (wd : Int) (hg : Int) (R : List jQ) (b : Nat) (b0 : Nat) (b1 : Nat) (b2 : Nat) (b3 : Nat) (b4 : Nat) (b5 : Nat) (nb : Nat) (fn : Int → Int) (fl : Int → Int) (fx : Int → Int) (fy : Int → Int) (fu : Int → Int) (fv : Int → Int) (bz : Int) (L : List jQ) (lw : Int) (nw : Int) (hn : n < 2147483648 ∧ (R.length : Int) + (L.length : Int) ≤ (n : Int)) (hnb : nb < 2147483648 ∧ bz ≤ (nb : Int)) (hlw : rI lw ∧ rI nw) (hB : bx fn fl fx fy fu fv bz L) (hcv : cv gx gy gu gv sz wx wy wd hg R) : jMv l D g yX1_take wsX1_take 2 54 [.ref o, .ref b, .int (jI lw), .int (jI nw)] [(o, .inr (1, [.ref a0, .ref a1, .ref a2, .ref a3, .ref a4, .ref a5, .ref a6, .int (jI sz), .int (jI wx), .int (jI wy), .int (jI wd), .int (jI hg)])), (a0, .inl (g.1, n, .inl (aI gx))), (a1, .inl (g.1, n, .inl (aI gy))), (a2, .inl (g.1, n, .inl (aI gu))), (a3, .inl (g.1, n, .inl (aI gv))), (a4, .inl (g.1, n, .inl (aI gb))), (a5, .inl (g.1, 1001, .inl (aI gs))), (a6, .inl (g.2.2, 1001, .inl (aI gc))), (b, .inr (0, [.ref b0, .ref b1, .ref b2, .ref b3, .ref b4, .ref b5, .int (jI bz)])), (b0, .inl (g.1, nb, .inl (aI fn))), (b1, .inl (g.1, nb, .inl (aI fl))), (b2, .inl (g.1, nb, .inl (aI fx))), (b3, .inl (g.1, nb, .inl (aI fy))), (b4, .inl (g.1, nb, .inl (aI fu))), (b5, .inl (g.1, nb, .inl (aI fv)))] (S := (Int → Int) × (Int → Int) × (Int → Int) × (Int → Int) × Int) (fun u => cv u.1 u.2.1 u.2.2.1 u.2.2.2.1 u.2.2.2.2 wx wy wd hg (R ++ L.filter (onNL lw nw))) (fun u => [(o, .inr (1, [.ref a0, .ref a1, .ref a2, .ref a3, .ref a4, .ref a5, .ref a6, .int (jI u.2.2.2.2), .int (jI wx), .int (jI wy), .int (jI wd), .int (jI hg)])), (a0, .inl (g.1, n, .inl (aI u.1))), (a1, .inl (g.1, n, .inl (aI u.2.1))), (a2, .inl (g.1, n, .inl (aI u.2.2.1))), (a3, .inl (g.1, n, .inl (aI u.2.2.2.1))), (a4, .inl (g.1, n, .inl (aI gb))), (a5, .inl (g.1, 1001, .inl (aI gs))), (a6, .inl (g.2.2, 1001, .inl (aI gc))), (b, .inr (0, [.ref b0, .ref b1, .ref b2, .ref b3, .ref b4, .ref b5, .int (jI bz)])), (b0, .inl (g.1, nb, .inl (aI fn))), (b1, .inl (g.1, nb, .inl (aI fl))), (b2, .inl (g.1, nb, .inl (aI fx))), (b3, .inl (g.1, nb, .inl (aI fy))), (b4, .inl (g.1, nb, .inl (aI fu))), (b5, .inl (g.1, nb, .inl (aI fv)))]) := by
  refine jMv_of (cc := cX1_take) (maxL := 5) (by decide) rfl (Nat.le_of_ble_eq_true rfl) ?_
  intro p e s m args below meth c Q A hx hb hml hts hown hK hA hret ls hl hP hD
  have hS : va_S A s.heap s.heap [] := va_S.rf
  have hown : s.vm.findClass RX1 = some m.cls := hown
  have f50 := hts (.fieldLink RX1 50 "AntennaFill$Boxes" "size" "I") (by decide +kernel)
  have f53 := hts (.fieldLink RX1 53 "AntennaFill$Boxes" "layer" "[I") (by decide +kernel)
  have f56 := hts (.fieldLink RX1 56 "AntennaFill$Boxes" "net" "[I") (by decide +kernel)
  have f59 := hts (.fieldLink RX1 59 "AntennaFill$Boxes" "x0" "[I") (by decide +kernel)
  have f60 := hts (.fieldLink RX1 60 "AntennaFill$Boxes" "y0" "[I") (by decide +kernel)
  have f61 := hts (.fieldLink RX1 61 "AntennaFill$Boxes" "x1" "[I") (by decide +kernel)
  have f62 := hts (.fieldLink RX1 62 "AntennaFill$Boxes" "y1" "[I") (by decide +kernel)
  have inX0 : ∀ w ∈ wsX00, w ∈ wsX1_take := by decide +kernel
  have hl : lv_has ls 5 [(0, .ref o), (1, .ref b), (2, .int (jI lw)), (3, .int (jI nw))] := hl
  have hlen := hB.1
  have L3 : ∀ (fuel : Nat) (i : Int) (gx' : Int → Int) (gy' : Int → Int) (gu' : Int → Int) (gv' : Int → Int) (sz' : Int), (0 ≤ i ∧ i ≤ bz) → (cv gx' gy' gu' gv' sz' wx wy wd hg (R ++ (pre L i).filter (onNL lw nw))) → (bz - i < (fuel : Int)) → ∀ (H : Heap) (locs : List Loc) (ls : Array Slot), va_P D jcl [(o, .inr (1, [.ref a0, .ref a1, .ref a2, .ref a3, .ref a4, .ref a5, .ref a6, .int (jI sz'), .int (jI wx), .int (jI wy), .int (jI wd), .int (jI hg)])), (a0, .inl (g.1, n, .inl (aI gx'))), (a1, .inl (g.1, n, .inl (aI gy'))), (a2, .inl (g.1, n, .inl (aI gu'))), (a3, .inl (g.1, n, .inl (aI gv'))), (a4, .inl (g.1, n, .inl (aI gb))), (a5, .inl (g.1, 1001, .inl (aI gs))), (a6, .inl (g.2.2, 1001, .inl (aI gc))), (b, .inr (0, [.ref b0, .ref b1, .ref b2, .ref b3, .ref b4, .ref b5, .int (jI bz)])), (b0, .inl (g.1, nb, .inl (aI fn))), (b1, .inl (g.1, nb, .inl (aI fl))), (b2, .inl (g.1, nb, .inl (aI fx))), (b3, .inl (g.1, nb, .inl (aI fy))), (b4, .inl (g.1, nb, .inl (aI fu))), (b5, .inl (g.1, nb, .inl (aI fv)))] H → va_D A [(o, .inr (1, [.ref a0, .ref a1, .ref a2, .ref a3, .ref a4, .ref a5, .ref a6, .int (jI sz'), .int (jI wx), .int (jI wy), .int (jI wd), .int (jI hg)])), (a0, .inl (g.1, n, .inl (aI gx'))), (a1, .inl (g.1, n, .inl (aI gy'))), (a2, .inl (g.1, n, .inl (aI gu'))), (a3, .inl (g.1, n, .inl (aI gv'))), (a4, .inl (g.1, n, .inl (aI gb))), (a5, .inl (g.1, 1001, .inl (aI gs))), (a6, .inl (g.2.2, 1001, .inl (aI gc))), (b, .inr (0, [.ref b0, .ref b1, .ref b2, .ref b3, .ref b4, .ref b5, .int (jI bz)])), (b0, .inl (g.1, nb, .inl (aI fn))), (b1, .inl (g.1, nb, .inl (aI fl))), (b2, .inl (g.1, nb, .inl (aI fx))), (b3, .inl (g.1, nb, .inl (aI fy))), (b4, .inl (g.1, nb, .inl (aI fu))), (b5, .inl (g.1, nb, .inl (aI fv)))] → va_S A s.heap H locs → lv_has ls 5 [(0, .ref o), (1, .ref b), (2, .int (jI lw)), (3, .int (jI nw)), (4, .int (jI i))] → W p l e (jR 2 54) s m args below meth c H locs 0 0 Q (F0 m 3 ls []) := by
    intro fuel
    induction fuel with
    | zero =>
      intro i gx' gy' gu' gv' sz' hi hc2 hfu
      exfalso; omega
    | succ fuel ihL3 =>
      intro i gx' gy' gu' gv' sz' hi hc2 hfu H locs ls hP hD hS hl
      refine lv_iload hx hb dX1_take_3 (lv_at hl 4 rfl) ?_
      refine lv_aload_n hx hb dX1_take_5 rfl (lv_at hl 1 rfl) ?_
      refine va_get (D := D) (ci := 0) (v := .int (jI bz)) (C := RX0) (T := TX0) (N := 7) hx hb hts inX0 hown hK hP 8 rfl rfl 6 (by decide) f50 (fun _ h9 => h9) rfl dX1_take_6 ?_
      refine jv_icmp_ge (tgt := 77) hx hb ⟨by omega, by omega⟩ ⟨by omega, by omega⟩ dX1_take_9 (by decide) (fun c9 => ?_) (fun c9 => ?_)
      · skip
        exact hret  (gx', gy', gu', gv', sz') _ _ _ _ (by rw [← pre_all (L := L) (i := i) (by omega)]; exact hc2) (hP.sub [0, 1, 2, 3, 4, 5, 6, 7, 8, 9, 10, 11, 12, 13, 14] rfl) (hD.sub [0, 1, 2, 3, 4, 5, 6, 7, 8, 9, 10, 11, 12, 13, 14] (by decide) rfl) hS dX1_take_77
      · skip
        obtain ⟨q, hq, hm, e0, e1, e2, e3, e4, e5, hok⟩ := bx_at hB (k := i) ⟨hi.1, by omega⟩
        have hok2 := hok
        unfold okQ at hok
        have hlen := hB.1
        have hfl := flt_leni (onNL lw nw) L i hi.1
        have J39 : (onNL lw nw q = true) → ∀ (H : Heap) (locs : List Loc) (ls : Array Slot), va_P D jcl [(o, .inr (1, [.ref a0, .ref a1, .ref a2, .ref a3, .ref a4, .ref a5, .ref a6, .int (jI sz'), .int (jI wx), .int (jI wy), .int (jI wd), .int (jI hg)])), (a0, .inl (g.1, n, .inl (aI gx'))), (a1, .inl (g.1, n, .inl (aI gy'))), (a2, .inl (g.1, n, .inl (aI gu'))), (a3, .inl (g.1, n, .inl (aI gv'))), (a4, .inl (g.1, n, .inl (aI gb))), (a5, .inl (g.1, 1001, .inl (aI gs))), (a6, .inl (g.2.2, 1001, .inl (aI gc))), (b, .inr (0, [.ref b0, .ref b1, .ref b2, .ref b3, .ref b4, .ref b5, .int (jI bz)])), (b0, .inl (g.1, nb, .inl (aI fn))), (b1, .inl (g.1, nb, .inl (aI fl))), (b2, .inl (g.1, nb, .inl (aI fx))), (b3, .inl (g.1, nb, .inl (aI fy))), (b4, .inl (g.1, nb, .inl (aI fu))), (b5, .inl (g.1, nb, .inl (aI fv)))] H → va_D A [(o, .inr (1, [.ref a0, .ref a1, .ref a2, .ref a3, .ref a4, .ref a5, .ref a6, .int (jI sz'), .int (jI wx), .int (jI wy), .int (jI wd), .int (jI hg)])), (a0, .inl (g.1, n, .inl (aI gx'))), (a1, .inl (g.1, n, .inl (aI gy'))), (a2, .inl (g.1, n, .inl (aI gu'))), (a3, .inl (g.1, n, .inl (aI gv'))), (a4, .inl (g.1, n, .inl (aI gb))), (a5, .inl (g.1, 1001, .inl (aI gs))), (a6, .inl (g.2.2, 1001, .inl (aI gc))), (b, .inr (0, [.ref b0, .ref b1, .ref b2, .ref b3, .ref b4, .ref b5, .int (jI bz)])), (b0, .inl (g.1, nb, .inl (aI fn))), (b1, .inl (g.1, nb, .inl (aI fl))), (b2, .inl (g.1, nb, .inl (aI fx))), (b3, .inl (g.1, nb, .inl (aI fy))), (b4, .inl (g.1, nb, .inl (aI fu))), (b5, .inl (g.1, nb, .inl (aI fv)))] → va_S A s.heap H locs → lv_has ls 5 [(0, .ref o), (1, .ref b), (2, .int (jI lw)), (3, .int (jI nw)), (4, .int (jI i))] → W p l e (jR 2 54) s m args below meth c H locs 0 0 Q (F0 m 39 ls []) := by
          intro  hon H locs ls hP hD hS hl
          refine lv_aload_n hx hb dX1_take_39 rfl (lv_at hl 0 rfl) ?_
          refine lv_aload_n hx hb dX1_take_40 rfl (lv_at hl 1 rfl) ?_
          refine va_get (D := D) (ci := 0) (v := .ref b2) (C := RX0) (T := TX0) (N := 7) hx hb hts inX0 hown hK hP 8 rfl rfl 2 (by decide) f59 (fun _ h9 => h9) rfl dX1_take_41 ?_
          refine lv_iload hx hb dX1_take_44 (lv_at hl 4 rfl) ?_
          refine jv_iald hx hb hK hP 11 0 rfl rfl (i := i) ⟨by omega, by omega⟩ hnb.1 dX1_take_46 ?_
          refine lv_aload_n hx hb dX1_take_47 rfl (lv_at hl 1 rfl) ?_
          refine va_get (D := D) (ci := 0) (v := .ref b3) (C := RX0) (T := TX0) (N := 7) hx hb hts inX0 hown hK hP 8 rfl rfl 3 (by decide) f60 (fun _ h9 => h9) rfl dX1_take_48 ?_
          refine lv_iload hx hb dX1_take_51 (lv_at hl 4 rfl) ?_
          refine jv_iald hx hb hK hP 12 0 rfl rfl (i := i) ⟨by omega, by omega⟩ hnb.1 dX1_take_53 ?_
          refine lv_aload_n hx hb dX1_take_54 rfl (lv_at hl 1 rfl) ?_
          refine va_get (D := D) (ci := 0) (v := .ref b4) (C := RX0) (T := TX0) (N := 7) hx hb hts inX0 hown hK hP 8 rfl rfl 4 (by decide) f61 (fun _ h9 => h9) rfl dX1_take_55 ?_
          refine lv_iload hx hb dX1_take_58 (lv_at hl 4 rfl) ?_
          refine jv_iald hx hb hK hP 13 0 rfl rfl (i := i) ⟨by omega, by omega⟩ hnb.1 dX1_take_60 ?_
          refine lv_aload_n hx hb dX1_take_61 rfl (lv_at hl 1 rfl) ?_
          refine va_get (D := D) (ci := 0) (v := .ref b5) (C := RX0) (T := TX0) (N := 7) hx hb hts inX0 hown hK hP 8 rfl rfl 5 (by decide) f62 (fun _ h9 => h9) rfl dX1_take_62 ?_
          refine lv_iload hx hb dX1_take_65 (lv_at hl 4 rfl) ?_
          refine jv_iald hx hb hK hP 14 0 rfl rfl (i := i) ⟨by omega, by omega⟩ hnb.1 dX1_take_67 ?_
          refine jc_Vv (As := [.int (jI (fx i)), .int (jI (fy i)), .int (jI (fu i)), .int (jI (fv i))]) (rest := []) (wq := [(b, .inr (0, [.ref b0, .ref b1, .ref b2, .ref b3, .ref b4, .ref b5, .int (jI bz)])), (b0, .inl (g.1, nb, .inl (aI fn))), (b1, .inl (g.1, nb, .inl (aI fl))), (b2, .inl (g.1, nb, .inl (aI fx))), (b3, .inl (g.1, nb, .inl (aI fy))), (b4, .inl (g.1, nb, .inl (aI fu))), (b5, .inl (g.1, nb, .inl (aI fv)))]) ⟨hx, hb, hml, hown, hts⟩ (tX1_takeClipped l D g o a0 a1 a2 a3 a4 a5 a6 n gx' gy' gu' gv' gb gs gc sz' wx wy wd hg (R ++ (pre L i).filter (onNL lw nw)) q (fx i) (fy i) (fu i) (fv i) (⟨hn.1, by rw [List.length_append]; omega⟩) (⟨e2.symm, e3.symm, e4.symm, e5.symm, hok2⟩) (hc2)) (cwV 4 hts gX1_take_X1_takeClipped rfl rfl rfl (by decide +kernel) ⟨Nat.le_of_ble_eq_true rfl, Nat.le_of_ble_eq_true rfl⟩) hK hP hD hS hA [0, 1, 2, 3, 4, 5, 6, 7] [8, 9, 10, 11, 12, 13, 14] rfl rfl (by decide) (by decide) (by decide) (va_recv hK hP (ci := 1) (q0 := 0) rfl rfl) rfl rfl hl.1 (Nat.le_of_ble_eq_true rfl) dX1_take_68 ⟨Nat.le_refl 0, Nat.le_refl 0⟩ (fun u H locs hu hP hD hS => ?_)
          obtain ⟨gx'_1, gy'_2, gu'_3, gv'_4, sz'_5⟩ := u
          have hu : cv gx'_1 gy'_2 gu'_3 gv'_4 sz'_5 wx wy wd hg ((R ++ (pre L i).filter (onNL lw nw)) ++ [q]) := hu
          have hc3 := hu
          have hP : va_P D jcl [(b, .inr (0, [.ref b0, .ref b1, .ref b2, .ref b3, .ref b4, .ref b5, .int (jI bz)])), (b0, .inl (g.1, nb, .inl (aI fn))), (b1, .inl (g.1, nb, .inl (aI fl))), (b2, .inl (g.1, nb, .inl (aI fx))), (b3, .inl (g.1, nb, .inl (aI fy))), (b4, .inl (g.1, nb, .inl (aI fu))), (b5, .inl (g.1, nb, .inl (aI fv))), (o, .inr (1, [.ref a0, .ref a1, .ref a2, .ref a3, .ref a4, .ref a5, .ref a6, .int (jI sz'_5), .int (jI wx), .int (jI wy), .int (jI wd), .int (jI hg)])), (a0, .inl (g.1, n, .inl (aI gx'_1))), (a1, .inl (g.1, n, .inl (aI gy'_2))), (a2, .inl (g.1, n, .inl (aI gu'_3))), (a3, .inl (g.1, n, .inl (aI gv'_4))), (a4, .inl (g.1, n, .inl (aI gb))), (a5, .inl (g.1, 1001, .inl (aI gs))), (a6, .inl (g.2.2, 1001, .inl (aI gc)))] H := hP
          have hD : va_D A [(b, .inr (0, [.ref b0, .ref b1, .ref b2, .ref b3, .ref b4, .ref b5, .int (jI bz)])), (b0, .inl (g.1, nb, .inl (aI fn))), (b1, .inl (g.1, nb, .inl (aI fl))), (b2, .inl (g.1, nb, .inl (aI fx))), (b3, .inl (g.1, nb, .inl (aI fy))), (b4, .inl (g.1, nb, .inl (aI fu))), (b5, .inl (g.1, nb, .inl (aI fv))), (o, .inr (1, [.ref a0, .ref a1, .ref a2, .ref a3, .ref a4, .ref a5, .ref a6, .int (jI sz'_5), .int (jI wx), .int (jI wy), .int (jI wd), .int (jI hg)])), (a0, .inl (g.1, n, .inl (aI gx'_1))), (a1, .inl (g.1, n, .inl (aI gy'_2))), (a2, .inl (g.1, n, .inl (aI gu'_3))), (a3, .inl (g.1, n, .inl (aI gv'_4))), (a4, .inl (g.1, n, .inl (aI gb))), (a5, .inl (g.1, 1001, .inl (aI gs))), (a6, .inl (g.2.2, 1001, .inl (aI gc)))] := hD
          refine jv_iinc (lv2 := [(4, .int (jI (i + 1))), (0, .ref o), (1, .ref b), (2, .int (jI lw)), (3, .int (jI nw))]) hx hb dX1_take_71 hl (k := 4) rfl (by decide) rfl (fun ls hl => ?_)
          refine lv_goto (tgt := 3) hx hb dX1_take_74 (by decide) ?_
          exact ihL3 (i + 1) gx'_1 gy'_2 gu'_3 gv'_4 sz'_5 (by omega) (by first | (rw [flt_n _ hi.1 hq (dec_f (by omega))]; exact hc2) | (rw [flt_s _ hi.1 hq hon, ← List.append_assoc]; exact hc3)) (by omega) _ _ _ (hP.sub [7, 8, 9, 10, 11, 12, 13, 14, 0, 1, 2, 3, 4, 5, 6] rfl) (hD.sub [7, 8, 9, 10, 11, 12, 13, 14, 0, 1, 2, 3, 4, 5, 6] (by decide) rfl) hS (lv_sub hl [1, 2, 3, 4, 0] rfl)
        refine lv_aload_n hx hb dX1_take_12 rfl (lv_at hl 1 rfl) ?_
        refine va_get (D := D) (ci := 0) (v := .ref b1) (C := RX0) (T := TX0) (N := 7) hx hb hts inX0 hown hK hP 8 rfl rfl 1 (by decide) f53 (fun _ h9 => h9) rfl dX1_take_13 ?_
        refine lv_iload hx hb dX1_take_16 (lv_at hl 4 rfl) ?_
        refine jv_iald hx hb hK hP 10 0 rfl rfl (i := i) ⟨by omega, by omega⟩ hnb.1 dX1_take_18 ?_
        refine lv_iload_n hx hb dX1_take_19 rfl (lv_at hl 2 rfl) ?_
        refine jv_icmp_ne (tgt := 71) hx hb ⟨by omega, by omega⟩ ⟨by omega, by omega⟩ dX1_take_20 (by decide) (fun c20 => ?_) (fun c20 => ?_)
        · skip
          refine jv_iinc (lv2 := [(4, .int (jI (i + 1))), (0, .ref o), (1, .ref b), (2, .int (jI lw)), (3, .int (jI nw))]) hx hb dX1_take_71 hl (k := 4) rfl (by decide) rfl (fun ls hl => ?_)
          refine lv_goto (tgt := 3) hx hb dX1_take_74 (by decide) ?_
          exact ihL3 (i + 1) gx' gy' gu' gv' sz' (by omega) (by first | (rw [flt_n _ hi.1 hq (dec_f (by omega))]; exact hc2) | (rw [flt_s _ hi.1 hq hon, ← List.append_assoc]; exact hc3)) (by omega) _ _ _ (hP.sub [0, 1, 2, 3, 4, 5, 6, 7, 8, 9, 10, 11, 12, 13, 14] rfl) (hD.sub [0, 1, 2, 3, 4, 5, 6, 7, 8, 9, 10, 11, 12, 13, 14] (by decide) rfl) hS (lv_sub hl [1, 2, 3, 4, 0] rfl)
        · skip
          refine lv_iload_n hx hb dX1_take_23 rfl (lv_at hl 3 rfl) ?_
          refine jv_iconst hx hb dX1_take_24 ?_
          refine jv_icmp_eq (tgt := 39) hx hb ⟨by omega, by omega⟩ ⟨by decide, by decide⟩ dX1_take_25 (by decide) (fun c25 => ?_) (fun c25 => ?_)
          · skip
            exact J39  (dec_t (by omega)) _ _ _ (hP.sub [0, 1, 2, 3, 4, 5, 6, 7, 8, 9, 10, 11, 12, 13, 14] rfl) (hD.sub [0, 1, 2, 3, 4, 5, 6, 7, 8, 9, 10, 11, 12, 13, 14] (by decide) rfl) hS (lv_sub hl [0, 1, 2, 3, 4] rfl)
          · skip
            refine lv_aload_n hx hb dX1_take_28 rfl (lv_at hl 1 rfl) ?_
            refine va_get (D := D) (ci := 0) (v := .ref b0) (C := RX0) (T := TX0) (N := 7) hx hb hts inX0 hown hK hP 8 rfl rfl 0 (by decide) f56 (fun _ h9 => h9) rfl dX1_take_29 ?_
            refine lv_iload hx hb dX1_take_32 (lv_at hl 4 rfl) ?_
            refine jv_iald hx hb hK hP 9 0 rfl rfl (i := i) ⟨by omega, by omega⟩ hnb.1 dX1_take_34 ?_
            refine lv_iload_n hx hb dX1_take_35 rfl (lv_at hl 3 rfl) ?_
            refine jv_icmp_ne (tgt := 71) hx hb ⟨by omega, by omega⟩ ⟨by omega, by omega⟩ dX1_take_36 (by decide) (fun c36 => ?_) (fun c36 => ?_)
            · skip
              refine jv_iinc (lv2 := [(4, .int (jI (i + 1))), (0, .ref o), (1, .ref b), (2, .int (jI lw)), (3, .int (jI nw))]) hx hb dX1_take_71 hl (k := 4) rfl (by decide) rfl (fun ls hl => ?_)
              refine lv_goto (tgt := 3) hx hb dX1_take_74 (by decide) ?_
              exact ihL3 (i + 1) gx' gy' gu' gv' sz' (by omega) (by first | (rw [flt_n _ hi.1 hq (dec_f (by omega))]; exact hc2) | (rw [flt_s _ hi.1 hq hon, ← List.append_assoc]; exact hc3)) (by omega) _ _ _ (hP.sub [0, 1, 2, 3, 4, 5, 6, 7, 8, 9, 10, 11, 12, 13, 14] rfl) (hD.sub [0, 1, 2, 3, 4, 5, 6, 7, 8, 9, 10, 11, 12, 13, 14] (by decide) rfl) hS (lv_sub hl [1, 2, 3, 4, 0] rfl)
            · skip
              exact J39  (dec_t (by omega)) _ _ _ (hP.sub [0, 1, 2, 3, 4, 5, 6, 7, 8, 9, 10, 11, 12, 13, 14] rfl) (hD.sub [0, 1, 2, 3, 4, 5, 6, 7, 8, 9, 10, 11, 12, 13, 14] (by decide) rfl) hS (lv_sub hl [0, 1, 2, 3, 4] rfl)
  refine jv_iconst hx hb dX1_take_0 ?_
  refine lv_istore (lv' := [(4, .int (jI 0)), (0, .ref o), (1, .ref b), (2, .int (jI lw)), (3, .int (jI nw))]) hx hb dX1_take_1 hl (by decide) rfl (fun ls hl => ?_)
  exact L3 ((bz - 0).toNat + 1) 0 gx gy gu gv sz (by omega) (by rw [pre_0, List.filter_nil, List.append_nil]; exact hcv) (by omega) _ _ _ (hP.sub [0, 1, 2, 3, 4, 5, 6, 7, 8, 9, 10, 11, 12, 13, 14] rfl) (hD.sub [0, 1, 2, 3, 4, 5, 6, 7, 8, 9, 10, 11, 12, 13, 14] (by decide) rfl) hS (lv_sub hl [1, 2, 3, 4, 0] rfl)

set_option maxHeartbeats 4000000 in
set_option maxRecDepth 100000 in
/-- Cover.sortByLeft -/
theorem tX1_sortByLeft (l : Launch) (D : va_G) (g : ClassId × ClassId × ClassId) (o : Nat) (a0 : Nat) (a1 : Nat) (a2 : Nat) (a3 : Nat) (a4 : Nat) (a5 : Nat) (a6 : Nat) (n : Nat) (gx : Int → Int) (gy : Int → Int) (gu : Int → Int) (gv : Int → Int) (gb : Int → Int) (gs : Int → Int) (gc : Int → Int) (sz : Int) (wx : Int) (wy : Int) (wd : Int) (hg : Int) (R : List jQ) (hn : n < 2147483648 ∧ (R.length : Int) ≤ (n : Int)) (hcv : cv gx gy gu gv sz wx wy wd hg R) : jMv l D g yX1_sortByLeft wsX1_sortByLeft 1 23 [.ref o] [(o, .inr (1, [.ref a0, .ref a1, .ref a2, .ref a3, .ref a4, .ref a5, .ref a6, .int (jI sz), .int (jI wx), .int (jI wy), .int (jI wd), .int (jI hg)])), (a0, .inl (g.1, n, .inl (aI gx))), (a1, .inl (g.1, n, .inl (aI gy))), (a2, .inl (g.1, n, .inl (aI gu))), (a3, .inl (g.1, n, .inl (aI gv))), (a4, .inl (g.1, n, .inl (aI gb))), (a5, .inl (g.1, 1001, .inl (aI gs))), (a6, .inl (g.2.2, 1001, .inl (aI gc)))] (S := (Int → Int) × (Int → Int)) (fun u => srt gx sz u.1) (fun u => [(o, .inr (1, [.ref a0, .ref a1, .ref a2, .ref a3, .ref a4, .ref a5, .ref a6, .int (jI sz), .int (jI wx), .int (jI wy), .int (jI wd), .int (jI hg)])), (a0, .inl (g.1, n, .inl (aI gx))), (a1, .inl (g.1, n, .inl (aI gy))), (a2, .inl (g.1, n, .inl (aI gu))), (a3, .inl (g.1, n, .inl (aI gv))), (a4, .inl (g.1, n, .inl (aI u.1))), (a5, .inl (g.1, 1001, .inl (aI u.2))), (a6, .inl (g.2.2, 1001, .inl (aI gc)))]) := by
  refine jMv_of (cc := cX1_sortByLeft) (maxL := 2) (by decide) rfl (Nat.le_of_ble_eq_true rfl) ?_
  intro p e s m args below meth c Q A hx hb hml hts hown hK hA hret ls hl hP hD
  have hS : va_S A s.heap s.heap [] := va_S.rf
  have hown : s.vm.findClass RX1 = some m.cls := hown
  have f9 := hts (.fieldLink RX1 9 "AntennaFill$Cover" "x0" "[I") (by decide +kernel)
  have f24 := hts (.fieldLink RX1 24 "AntennaFill$Cover" "byLeft" "[I") (by decide +kernel)
  have f27 := hts (.fieldLink RX1 27 "AntennaFill$Cover" "leftStarts" "[I") (by decide +kernel)
  have f34 := hts (.fieldLink RX1 34 "AntennaFill$Cover" "size" "I") (by decide +kernel)
  have f44 := hts (.fieldLink RX1 44 "AntennaFill$Cover" "wide" "I") (by decide +kernel)
  have inX1 : ∀ w ∈ wsX10, w ∈ wsX1_sortByLeft := by decide +kernel
  have hl : lv_has ls 2 [(0, .ref o)] := hl
  have hcw := hcv.2.1
  have hcz := hcv.2.2.1
  have hcr := hcv.2.2.2.1
  have hco := hcv.1
  have LD : ∀ (fuel : Nat) (i : Int) (gs' : Int → Int) (gb' : Int → Int), (0 ≤ i ∧ i ≤ sz) → (∀ x, 0 ≤ x → x < wd → gs' x = cn (fun j => decide (gx j < x)) 0 sz + cn (fun j => decide (gx j = x)) 0 i) → (∀ k, 0 ≤ k → k < i → gb' (psn gx sz k) = k) → (sz - i < (fuel : Int)) → ∀ (H : Heap) (locs : List Loc) (ls : Array Slot), va_P D jcl [(o, .inr (1, [.ref a0, .ref a1, .ref a2, .ref a3, .ref a4, .ref a5, .ref a6, .int (jI sz), .int (jI wx), .int (jI wy), .int (jI wd), .int (jI hg)])), (a0, .inl (g.1, n, .inl (aI gx))), (a1, .inl (g.1, n, .inl (aI gy))), (a2, .inl (g.1, n, .inl (aI gu))), (a3, .inl (g.1, n, .inl (aI gv))), (a4, .inl (g.1, n, .inl (aI gb'))), (a5, .inl (g.1, 1001, .inl (aI gs'))), (a6, .inl (g.2.2, 1001, .inl (aI gc)))] H → va_D A [(o, .inr (1, [.ref a0, .ref a1, .ref a2, .ref a3, .ref a4, .ref a5, .ref a6, .int (jI sz), .int (jI wx), .int (jI wy), .int (jI wd), .int (jI hg)])), (a0, .inl (g.1, n, .inl (aI gx))), (a1, .inl (g.1, n, .inl (aI gy))), (a2, .inl (g.1, n, .inl (aI gu))), (a3, .inl (g.1, n, .inl (aI gv))), (a4, .inl (g.1, n, .inl (aI gb'))), (a5, .inl (g.1, 1001, .inl (aI gs'))), (a6, .inl (g.2.2, 1001, .inl (aI gc)))] → va_S A s.heap H locs → lv_has ls 2 [(0, .ref o), (1, .int (jI i))] → W p l e (jR 1 23) s m args below meth c H locs 0 0 Q (F0 m 91 ls []) := by
    intro fuel
    induction fuel with
    | zero =>
      intro i gs' gb' hi h1 h2 hfu
      exfalso; omega
    | succ fuel ihLD =>
      intro i gs' gb' hi h1 h2 hfu H locs ls hP hD hS hl
      refine lv_iload_n hx hb dX1_sortByLeft_91 rfl (lv_at hl 1 rfl) ?_
      refine lv_aload_n hx hb dX1_sortByLeft_92 rfl (lv_at hl 0 rfl) ?_
      refine va_get (D := D) (ci := 1) (v := .int (jI sz)) (C := RX1) (T := TX1) (N := 12) hx hb hts inX1 hown hK hP 0 rfl rfl 7 (by decide) f34 (fun _ h9 => h9) rfl dX1_sortByLeft_93 ?_
      refine jv_icmp_ge (tgt := 137) hx hb ⟨by omega, by omega⟩ ⟨by omega, by omega⟩ dX1_sortByLeft_96 (by decide) (fun c96 => ?_) (fun c96 => ?_)
      · skip
        exact hret  (gb', gs') _ _ _ _ (fun k q1 q2 => h2 k q1 (by omega)) (hP.sub [0, 1, 2, 3, 4, 5, 6, 7] rfl) (hD.sub [0, 1, 2, 3, 4, 5, 6, 7] (by decide) rfl) hS dX1_sortByLeft_137
      · skip
        have hr := hcr i hi.1 (by omega)
        have hg1 := h1 (gx i) (by omega) (by omega)
        have hpos : gs' (gx i) = psn gx sz i := hg1
        have hpb := psn_bd (f := gx) (n := sz) (k := i) ⟨hi.1, by omega⟩
        refine lv_aload_n hx hb dX1_sortByLeft_99 rfl (lv_at hl 0 rfl) ?_
        refine va_get (D := D) (ci := 1) (v := .ref a4) (C := RX1) (T := TX1) (N := 12) hx hb hts inX1 hown hK hP 0 rfl rfl 4 (by decide) f24 (fun _ h9 => h9) rfl dX1_sortByLeft_100 ?_
        refine lv_aload_n hx hb dX1_sortByLeft_103 rfl (lv_at hl 0 rfl) ?_
        refine va_get (D := D) (ci := 1) (v := .ref a5) (C := RX1) (T := TX1) (N := 12) hx hb hts inX1 hown hK hP 0 rfl rfl 5 (by decide) f27 (fun _ h9 => h9) rfl dX1_sortByLeft_104 ?_
        refine lv_aload_n hx hb dX1_sortByLeft_107 rfl (lv_at hl 0 rfl) ?_
        refine va_get (D := D) (ci := 1) (v := .ref a0) (C := RX1) (T := TX1) (N := 12) hx hb hts inX1 hown hK hP 0 rfl rfl 0 (by decide) f9 (fun _ h9 => h9) rfl dX1_sortByLeft_108 ?_
        refine lv_iload_n hx hb dX1_sortByLeft_111 rfl (lv_at hl 1 rfl) ?_
        refine jv_iald hx hb hK hP 1 0 rfl rfl (i := i) ⟨by omega, by omega⟩ hn.1 dX1_sortByLeft_112 ?_
        refine jv_iald hx hb hK hP 6 0 rfl rfl (i := (gx i)) ⟨by omega, by omega⟩ (Nat.le_of_ble_eq_true rfl) dX1_sortByLeft_113 ?_
        refine lv_iload_n hx hb dX1_sortByLeft_114 rfl (lv_at hl 1 rfl) ?_
        refine jv_iast hx hb hK hP hD hS 5 0 rfl rfl (i := (gs' (gx i))) (x := i) ⟨by omega, by omega⟩ hn.1 dX1_sortByLeft_115 (fun H locs hP hD hS => ?_)
        have hP : va_P D jcl [(o, .inr (1, [.ref a0, .ref a1, .ref a2, .ref a3, .ref a4, .ref a5, .ref a6, .int (jI sz), .int (jI wx), .int (jI wy), .int (jI wd), .int (jI hg)])), (a0, .inl (g.1, n, .inl (aI gx))), (a1, .inl (g.1, n, .inl (aI gy))), (a2, .inl (g.1, n, .inl (aI gu))), (a3, .inl (g.1, n, .inl (aI gv))), (a4, .inl (g.1, n, .inl (aI (upI gb' (gs' (gx i)) i)))), (a5, .inl (g.1, 1001, .inl (aI gs'))), (a6, .inl (g.2.2, 1001, .inl (aI gc)))] H := hP
        have hD : va_D A [(o, .inr (1, [.ref a0, .ref a1, .ref a2, .ref a3, .ref a4, .ref a5, .ref a6, .int (jI sz), .int (jI wx), .int (jI wy), .int (jI wd), .int (jI hg)])), (a0, .inl (g.1, n, .inl (aI gx))), (a1, .inl (g.1, n, .inl (aI gy))), (a2, .inl (g.1, n, .inl (aI gu))), (a3, .inl (g.1, n, .inl (aI gv))), (a4, .inl (g.1, n, .inl (aI (upI gb' (gs' (gx i)) i)))), (a5, .inl (g.1, 1001, .inl (aI gs'))), (a6, .inl (g.2.2, 1001, .inl (aI gc)))] := hD
        refine lv_aload_n hx hb dX1_sortByLeft_116 rfl (lv_at hl 0 rfl) ?_
        refine va_get (D := D) (ci := 1) (v := .ref a5) (C := RX1) (T := TX1) (N := 12) hx hb hts inX1 hown hK hP 0 rfl rfl 5 (by decide) f27 (fun _ h9 => h9) rfl dX1_sortByLeft_117 ?_
        refine lv_aload_n hx hb dX1_sortByLeft_120 rfl (lv_at hl 0 rfl) ?_
        refine va_get (D := D) (ci := 1) (v := .ref a0) (C := RX1) (T := TX1) (N := 12) hx hb hts inX1 hown hK hP 0 rfl rfl 0 (by decide) f9 (fun _ h9 => h9) rfl dX1_sortByLeft_121 ?_
        refine lv_iload_n hx hb dX1_sortByLeft_124 rfl (lv_at hl 1 rfl) ?_
        refine jv_iald hx hb hK hP 1 0 rfl rfl (i := i) ⟨by omega, by omega⟩ hn.1 dX1_sortByLeft_125 ?_
        refine lv_dup2_11 hx hb dX1_sortByLeft_126 rfl rfl ?_
        refine jv_iald hx hb hK hP 6 0 rfl rfl (i := (gx i)) ⟨by omega, by omega⟩ (Nat.le_of_ble_eq_true rfl) dX1_sortByLeft_127 ?_
        refine jv_iconst hx hb dX1_sortByLeft_128 ?_
        refine jv_iadd hx hb dX1_sortByLeft_129 ?_
        refine jv_iast hx hb hK hP hD hS 6 0 rfl rfl (i := (gx i)) (x := ((gs' (gx i)) + 1)) ⟨by omega, by omega⟩ (Nat.le_of_ble_eq_true rfl) dX1_sortByLeft_130 (fun H locs hP hD hS => ?_)
        have hP : va_P D jcl [(o, .inr (1, [.ref a0, .ref a1, .ref a2, .ref a3, .ref a4, .ref a5, .ref a6, .int (jI sz), .int (jI wx), .int (jI wy), .int (jI wd), .int (jI hg)])), (a0, .inl (g.1, n, .inl (aI gx))), (a1, .inl (g.1, n, .inl (aI gy))), (a2, .inl (g.1, n, .inl (aI gu))), (a3, .inl (g.1, n, .inl (aI gv))), (a4, .inl (g.1, n, .inl (aI (upI gb' (gs' (gx i)) i)))), (a5, .inl (g.1, 1001, .inl (aI (upI gs' (gx i) ((gs' (gx i)) + 1))))), (a6, .inl (g.2.2, 1001, .inl (aI gc)))] H := hP
        have hD : va_D A [(o, .inr (1, [.ref a0, .ref a1, .ref a2, .ref a3, .ref a4, .ref a5, .ref a6, .int (jI sz), .int (jI wx), .int (jI wy), .int (jI wd), .int (jI hg)])), (a0, .inl (g.1, n, .inl (aI gx))), (a1, .inl (g.1, n, .inl (aI gy))), (a2, .inl (g.1, n, .inl (aI gu))), (a3, .inl (g.1, n, .inl (aI gv))), (a4, .inl (g.1, n, .inl (aI (upI gb' (gs' (gx i)) i)))), (a5, .inl (g.1, 1001, .inl (aI (upI gs' (gx i) ((gs' (gx i)) + 1))))), (a6, .inl (g.2.2, 1001, .inl (aI gc)))] := hD
        refine jv_iinc (lv2 := [(1, .int (jI (i + 1))), (0, .ref o)]) hx hb dX1_sortByLeft_131 hl (k := 1) rfl (by decide) rfl (fun ls hl => ?_)
        refine lv_goto (tgt := 91) hx hb dX1_sortByLeft_134 (by decide) ?_
        exact ihLD (i + 1) (upI gs' (gx i) ((gs' (gx i)) + 1)) (upI gb' (gs' (gx i)) i) (by omega) (fun x q1 q2 => by
              rw [cn_s (P := fun j => decide (gx j = x)) hi.1]
              by_cases q3 : x = gx i
              · rw [q3, upI_eq, bi_t (dec_t rfl)]; have := h1 (gx i) (by omega) (by omega); omega
              · rw [upI_ne _ _ q3, bi_f (dec_f (by omega))]; have := h1 x q1 q2; omega) (fun k q1 q2 => by
              rw [hpos]
              by_cases q3 : k = i
              · rw [q3, upI_eq]
              · rw [upI_ne _ _ (psn_ne (by omega) (by omega) q3)]; exact h2 k q1 (by omega)) (by omega) _ _ _ (hP.sub [0, 1, 2, 3, 4, 5, 6, 7] rfl) (hD.sub [0, 1, 2, 3, 4, 5, 6, 7] (by decide) rfl) hS (lv_sub hl [1, 0] rfl)
  have LC : ∀ (fuel : Nat) (i : Int) (gs' : Int → Int), (1 ≤ i ∧ i ≤ wd + 1) → (∀ x, 0 ≤ x → x < i → gs' x = cn (fun j => decide (gx j < x)) 0 sz) → (∀ x, i ≤ x → x ≤ wd → gs' x = cn (fun j => decide (gx j + 1 = x)) 0 sz) → (wd + 2 - i < (fuel : Int)) → ∀ (H : Heap) (locs : List Loc) (ls : Array Slot), va_P D jcl [(o, .inr (1, [.ref a0, .ref a1, .ref a2, .ref a3, .ref a4, .ref a5, .ref a6, .int (jI sz), .int (jI wx), .int (jI wy), .int (jI wd), .int (jI hg)])), (a0, .inl (g.1, n, .inl (aI gx))), (a1, .inl (g.1, n, .inl (aI gy))), (a2, .inl (g.1, n, .inl (aI gu))), (a3, .inl (g.1, n, .inl (aI gv))), (a4, .inl (g.1, n, .inl (aI gb))), (a5, .inl (g.1, 1001, .inl (aI gs'))), (a6, .inl (g.2.2, 1001, .inl (aI gc)))] H → va_D A [(o, .inr (1, [.ref a0, .ref a1, .ref a2, .ref a3, .ref a4, .ref a5, .ref a6, .int (jI sz), .int (jI wx), .int (jI wy), .int (jI wd), .int (jI hg)])), (a0, .inl (g.1, n, .inl (aI gx))), (a1, .inl (g.1, n, .inl (aI gy))), (a2, .inl (g.1, n, .inl (aI gu))), (a3, .inl (g.1, n, .inl (aI gv))), (a4, .inl (g.1, n, .inl (aI gb))), (a5, .inl (g.1, 1001, .inl (aI gs'))), (a6, .inl (g.2.2, 1001, .inl (aI gc)))] → va_S A s.heap H locs → lv_has ls 2 [(0, .ref o), (1, .int (jI i))] → W p l e (jR 1 23) s m args below meth c H locs 0 0 Q (F0 m 58 ls []) := by
    intro fuel
    induction fuel with
    | zero =>
      intro i gs' hi h1 h2 hfu
      exfalso; omega
    | succ fuel ihLC =>
      intro i gs' hi h1 h2 hfu H locs ls hP hD hS hl
      refine lv_iload_n hx hb dX1_sortByLeft_58 rfl (lv_at hl 1 rfl) ?_
      refine lv_aload_n hx hb dX1_sortByLeft_59 rfl (lv_at hl 0 rfl) ?_
      refine va_get (D := D) (ci := 1) (v := .int (jI wd)) (C := RX1) (T := TX1) (N := 12) hx hb hts inX1 hown hK hP 0 rfl rfl 10 (by decide) f44 (fun _ h9 => h9) rfl dX1_sortByLeft_60 ?_
      refine jv_icmp_gt (tgt := 89) hx hb ⟨by omega, by omega⟩ ⟨by omega, by omega⟩ dX1_sortByLeft_63 (by decide) (fun c63 => ?_) (fun c63 => ?_)
      · skip
        refine jv_iconst hx hb dX1_sortByLeft_89 ?_
        refine lv_istore_n (lv' := [(1, .int (jI 0)), (0, .ref o)]) hx hb dX1_sortByLeft_90 rfl hl (by decide) rfl (fun ls hl => ?_)
        exact LD ((sz - 0).toNat + 1) 0 gs' gb (by omega) (fun x q1 q2 => by rw [cn_0 (Int.le_refl 0), Int.add_zero]; exact h1 x q1 (by omega)) (fun k q1 q2 => by omega) (by omega) _ _ _ (hP.sub [0, 1, 2, 3, 4, 5, 6, 7] rfl) (hD.sub [0, 1, 2, 3, 4, 5, 6, 7] (by decide) rfl) hS (lv_sub hl [1, 0] rfl)
      · skip
        have hg1 := h1 (i - 1) (by omega) (by omega)
        have hg2 := h2 i (by omega) (by omega)
        refine lv_aload_n hx hb dX1_sortByLeft_66 rfl (lv_at hl 0 rfl) ?_
        refine va_get (D := D) (ci := 1) (v := .ref a5) (C := RX1) (T := TX1) (N := 12) hx hb hts inX1 hown hK hP 0 rfl rfl 5 (by decide) f27 (fun _ h9 => h9) rfl dX1_sortByLeft_67 ?_
        refine lv_iload_n hx hb dX1_sortByLeft_70 rfl (lv_at hl 1 rfl) ?_
        refine lv_dup2_11 hx hb dX1_sortByLeft_71 rfl rfl ?_
        refine jv_iald hx hb hK hP 6 0 rfl rfl (i := i) ⟨by omega, by omega⟩ (Nat.le_of_ble_eq_true rfl) dX1_sortByLeft_72 ?_
        refine lv_aload_n hx hb dX1_sortByLeft_73 rfl (lv_at hl 0 rfl) ?_
        refine va_get (D := D) (ci := 1) (v := .ref a5) (C := RX1) (T := TX1) (N := 12) hx hb hts inX1 hown hK hP 0 rfl rfl 5 (by decide) f27 (fun _ h9 => h9) rfl dX1_sortByLeft_74 ?_
        refine lv_iload_n hx hb dX1_sortByLeft_77 rfl (lv_at hl 1 rfl) ?_
        refine jv_iconst hx hb dX1_sortByLeft_78 ?_
        refine jv_isub hx hb dX1_sortByLeft_79 ?_
        refine jv_iald hx hb hK hP 6 0 rfl rfl (i := (i - 1)) ⟨by omega, by omega⟩ (Nat.le_of_ble_eq_true rfl) dX1_sortByLeft_80 ?_
        refine jv_iadd hx hb dX1_sortByLeft_81 ?_
        refine jv_iast hx hb hK hP hD hS 6 0 rfl rfl (i := i) (x := ((gs' i) + (gs' (i - 1)))) ⟨by omega, by omega⟩ (Nat.le_of_ble_eq_true rfl) dX1_sortByLeft_82 (fun H locs hP hD hS => ?_)
        have hP : va_P D jcl [(o, .inr (1, [.ref a0, .ref a1, .ref a2, .ref a3, .ref a4, .ref a5, .ref a6, .int (jI sz), .int (jI wx), .int (jI wy), .int (jI wd), .int (jI hg)])), (a0, .inl (g.1, n, .inl (aI gx))), (a1, .inl (g.1, n, .inl (aI gy))), (a2, .inl (g.1, n, .inl (aI gu))), (a3, .inl (g.1, n, .inl (aI gv))), (a4, .inl (g.1, n, .inl (aI gb))), (a5, .inl (g.1, 1001, .inl (aI (upI gs' i ((gs' i) + (gs' (i - 1))))))), (a6, .inl (g.2.2, 1001, .inl (aI gc)))] H := hP
        have hD : va_D A [(o, .inr (1, [.ref a0, .ref a1, .ref a2, .ref a3, .ref a4, .ref a5, .ref a6, .int (jI sz), .int (jI wx), .int (jI wy), .int (jI wd), .int (jI hg)])), (a0, .inl (g.1, n, .inl (aI gx))), (a1, .inl (g.1, n, .inl (aI gy))), (a2, .inl (g.1, n, .inl (aI gu))), (a3, .inl (g.1, n, .inl (aI gv))), (a4, .inl (g.1, n, .inl (aI gb))), (a5, .inl (g.1, 1001, .inl (aI (upI gs' i ((gs' i) + (gs' (i - 1))))))), (a6, .inl (g.2.2, 1001, .inl (aI gc)))] := hD
        refine jv_iinc (lv2 := [(1, .int (jI (i + 1))), (0, .ref o)]) hx hb dX1_sortByLeft_83 hl (k := 1) rfl (by decide) rfl (fun ls hl => ?_)
        refine lv_goto (tgt := 58) hx hb dX1_sortByLeft_86 (by decide) ?_
        exact ihLC (i + 1) (upI gs' i ((gs' i) + (gs' (i - 1)))) (by omega) (fun x q1 q2 => by
              by_cases q3 : x = i
              · rw [q3, upI_eq, h1 (i - 1) (by omega) (by omega), h2 i (by omega) (by omega), Int.add_comm]
                refine (cn_or fun j _ _ => bi_or ?_ ?_).symm
                · rw [Bool.eq_iff_iff, Bool.or_eq_true]; simp only [decide_eq_true_eq]; omega
                · simp only [decide_eq_true_eq]; omega
              · rw [upI_ne _ _ q3]; exact h1 x q1 (by omega)) (fun x q1 q2 => by rw [upI_ne _ _ (by omega)]; exact h2 x (by omega) q2) (by omega) _ _ _ (hP.sub [0, 1, 2, 3, 4, 5, 6, 7] rfl) (hD.sub [0, 1, 2, 3, 4, 5, 6, 7] (by decide) rfl) hS (lv_sub hl [1, 0] rfl)
  have LB : ∀ (fuel : Nat) (i : Int) (gs' : Int → Int), (0 ≤ i ∧ i ≤ sz) → (∀ x, 0 ≤ x → x ≤ wd → gs' x = cn (fun j => decide (gx j + 1 = x)) 0 i) → (sz - i < (fuel : Int)) → ∀ (H : Heap) (locs : List Loc) (ls : Array Slot), va_P D jcl [(o, .inr (1, [.ref a0, .ref a1, .ref a2, .ref a3, .ref a4, .ref a5, .ref a6, .int (jI sz), .int (jI wx), .int (jI wy), .int (jI wd), .int (jI hg)])), (a0, .inl (g.1, n, .inl (aI gx))), (a1, .inl (g.1, n, .inl (aI gy))), (a2, .inl (g.1, n, .inl (aI gu))), (a3, .inl (g.1, n, .inl (aI gv))), (a4, .inl (g.1, n, .inl (aI gb))), (a5, .inl (g.1, 1001, .inl (aI gs'))), (a6, .inl (g.2.2, 1001, .inl (aI gc)))] H → va_D A [(o, .inr (1, [.ref a0, .ref a1, .ref a2, .ref a3, .ref a4, .ref a5, .ref a6, .int (jI sz), .int (jI wx), .int (jI wy), .int (jI wd), .int (jI hg)])), (a0, .inl (g.1, n, .inl (aI gx))), (a1, .inl (g.1, n, .inl (aI gy))), (a2, .inl (g.1, n, .inl (aI gu))), (a3, .inl (g.1, n, .inl (aI gv))), (a4, .inl (g.1, n, .inl (aI gb))), (a5, .inl (g.1, 1001, .inl (aI gs'))), (a6, .inl (g.2.2, 1001, .inl (aI gc)))] → va_S A s.heap H locs → lv_has ls 2 [(0, .ref o), (1, .int (jI i))] → W p l e (jR 1 23) s m args below meth c H locs 0 0 Q (F0 m 25 ls []) := by
    intro fuel
    induction fuel with
    | zero =>
      intro i gs' hi h1 hfu
      exfalso; omega
    | succ fuel ihLB =>
      intro i gs' hi h1 hfu H locs ls hP hD hS hl
      refine lv_iload_n hx hb dX1_sortByLeft_25 rfl (lv_at hl 1 rfl) ?_
      refine lv_aload_n hx hb dX1_sortByLeft_26 rfl (lv_at hl 0 rfl) ?_
      refine va_get (D := D) (ci := 1) (v := .int (jI sz)) (C := RX1) (T := TX1) (N := 12) hx hb hts inX1 hown hK hP 0 rfl rfl 7 (by decide) f34 (fun _ h9 => h9) rfl dX1_sortByLeft_27 ?_
      refine jv_icmp_ge (tgt := 56) hx hb ⟨by omega, by omega⟩ ⟨by omega, by omega⟩ dX1_sortByLeft_30 (by decide) (fun c30 => ?_) (fun c30 => ?_)
      · skip
        refine jv_iconst hx hb dX1_sortByLeft_56 ?_
        refine lv_istore_n (lv' := [(1, .int (jI 1)), (0, .ref o)]) hx hb dX1_sortByLeft_57 rfl hl (by decide) rfl (fun ls hl => ?_)
        exact LC ((wd + 2 - 1).toNat + 1) 1 gs' (by omega) (fun x q1 q2 => by
              have q3 : x = 0 := by omega
              subst q3
              rw [h1 0 (by omega) (by omega), show i = sz by omega, cn_no (fun j q4 q5 => dec_f (by have := hcr j q4 q5; omega)), cn_no (fun j q4 q5 => dec_f (by have := hcr j q4 q5; omega))]) (fun x q1 q2 => by rw [h1 x (by omega) q2, show i = sz by omega]) (by omega) _ _ _ (hP.sub [0, 1, 2, 3, 4, 5, 6, 7] rfl) (hD.sub [0, 1, 2, 3, 4, 5, 6, 7] (by decide) rfl) hS (lv_sub hl [1, 0] rfl)
      · skip
        have hr := hcr i hi.1 (by omega)
        have hg1 := h1 (gx i + 1) (by omega) (by omega)
        have hb1 := cn_bd (P := fun j => decide (gx j + 1 = gx i + 1)) hi.1
        refine lv_aload_n hx hb dX1_sortByLeft_33 rfl (lv_at hl 0 rfl) ?_
        refine va_get (D := D) (ci := 1) (v := .ref a5) (C := RX1) (T := TX1) (N := 12) hx hb hts inX1 hown hK hP 0 rfl rfl 5 (by decide) f27 (fun _ h9 => h9) rfl dX1_sortByLeft_34 ?_
        refine lv_aload_n hx hb dX1_sortByLeft_37 rfl (lv_at hl 0 rfl) ?_
        refine va_get (D := D) (ci := 1) (v := .ref a0) (C := RX1) (T := TX1) (N := 12) hx hb hts inX1 hown hK hP 0 rfl rfl 0 (by decide) f9 (fun _ h9 => h9) rfl dX1_sortByLeft_38 ?_
        refine lv_iload_n hx hb dX1_sortByLeft_41 rfl (lv_at hl 1 rfl) ?_
        refine jv_iald hx hb hK hP 1 0 rfl rfl (i := i) ⟨by omega, by omega⟩ hn.1 dX1_sortByLeft_42 ?_
        refine jv_iconst hx hb dX1_sortByLeft_43 ?_
        refine jv_iadd hx hb dX1_sortByLeft_44 ?_
        refine lv_dup2_11 hx hb dX1_sortByLeft_45 rfl rfl ?_
        refine jv_iald hx hb hK hP 6 0 rfl rfl (i := ((gx i) + 1)) ⟨by omega, by omega⟩ (Nat.le_of_ble_eq_true rfl) dX1_sortByLeft_46 ?_
        refine jv_iconst hx hb dX1_sortByLeft_47 ?_
        refine jv_iadd hx hb dX1_sortByLeft_48 ?_
        refine jv_iast hx hb hK hP hD hS 6 0 rfl rfl (i := ((gx i) + 1)) (x := ((gs' ((gx i) + 1)) + 1)) ⟨by omega, by omega⟩ (Nat.le_of_ble_eq_true rfl) dX1_sortByLeft_49 (fun H locs hP hD hS => ?_)
        have hP : va_P D jcl [(o, .inr (1, [.ref a0, .ref a1, .ref a2, .ref a3, .ref a4, .ref a5, .ref a6, .int (jI sz), .int (jI wx), .int (jI wy), .int (jI wd), .int (jI hg)])), (a0, .inl (g.1, n, .inl (aI gx))), (a1, .inl (g.1, n, .inl (aI gy))), (a2, .inl (g.1, n, .inl (aI gu))), (a3, .inl (g.1, n, .inl (aI gv))), (a4, .inl (g.1, n, .inl (aI gb))), (a5, .inl (g.1, 1001, .inl (aI (upI gs' ((gx i) + 1) ((gs' ((gx i) + 1)) + 1))))), (a6, .inl (g.2.2, 1001, .inl (aI gc)))] H := hP
        have hD : va_D A [(o, .inr (1, [.ref a0, .ref a1, .ref a2, .ref a3, .ref a4, .ref a5, .ref a6, .int (jI sz), .int (jI wx), .int (jI wy), .int (jI wd), .int (jI hg)])), (a0, .inl (g.1, n, .inl (aI gx))), (a1, .inl (g.1, n, .inl (aI gy))), (a2, .inl (g.1, n, .inl (aI gu))), (a3, .inl (g.1, n, .inl (aI gv))), (a4, .inl (g.1, n, .inl (aI gb))), (a5, .inl (g.1, 1001, .inl (aI (upI gs' ((gx i) + 1) ((gs' ((gx i) + 1)) + 1))))), (a6, .inl (g.2.2, 1001, .inl (aI gc)))] := hD
        refine jv_iinc (lv2 := [(1, .int (jI (i + 1))), (0, .ref o)]) hx hb dX1_sortByLeft_50 hl (k := 1) rfl (by decide) rfl (fun ls hl => ?_)
        refine lv_goto (tgt := 25) hx hb dX1_sortByLeft_53 (by decide) ?_
        exact ihLB (i + 1) (upI gs' ((gx i) + 1) ((gs' ((gx i) + 1)) + 1)) (by omega) (fun x q1 q2 => by
              rw [cn_s hi.1]
              by_cases q3 : x = gx i + 1
              · rw [q3, upI_eq, bi_t (dec_t rfl)]; have := h1 (gx i + 1) (by omega) (by omega); omega
              · rw [upI_ne _ _ q3, bi_f (dec_f (by omega))]; have := h1 x q1 q2; omega) (by omega) _ _ _ (hP.sub [0, 1, 2, 3, 4, 5, 6, 7] rfl) (hD.sub [0, 1, 2, 3, 4, 5, 6, 7] (by decide) rfl) hS (lv_sub hl [1, 0] rfl)
  have LA : ∀ (fuel : Nat) (i : Int) (gs' : Int → Int), (0 ≤ i ∧ i ≤ wd + 1) → (∀ x, 0 ≤ x → x < i → gs' x = 0) → (wd + 2 - i < (fuel : Int)) → ∀ (H : Heap) (locs : List Loc) (ls : Array Slot), va_P D jcl [(o, .inr (1, [.ref a0, .ref a1, .ref a2, .ref a3, .ref a4, .ref a5, .ref a6, .int (jI sz), .int (jI wx), .int (jI wy), .int (jI wd), .int (jI hg)])), (a0, .inl (g.1, n, .inl (aI gx))), (a1, .inl (g.1, n, .inl (aI gy))), (a2, .inl (g.1, n, .inl (aI gu))), (a3, .inl (g.1, n, .inl (aI gv))), (a4, .inl (g.1, n, .inl (aI gb))), (a5, .inl (g.1, 1001, .inl (aI gs'))), (a6, .inl (g.2.2, 1001, .inl (aI gc)))] H → va_D A [(o, .inr (1, [.ref a0, .ref a1, .ref a2, .ref a3, .ref a4, .ref a5, .ref a6, .int (jI sz), .int (jI wx), .int (jI wy), .int (jI wd), .int (jI hg)])), (a0, .inl (g.1, n, .inl (aI gx))), (a1, .inl (g.1, n, .inl (aI gy))), (a2, .inl (g.1, n, .inl (aI gu))), (a3, .inl (g.1, n, .inl (aI gv))), (a4, .inl (g.1, n, .inl (aI gb))), (a5, .inl (g.1, 1001, .inl (aI gs'))), (a6, .inl (g.2.2, 1001, .inl (aI gc)))] → va_S A s.heap H locs → lv_has ls 2 [(0, .ref o), (1, .int (jI i))] → W p l e (jR 1 23) s m args below meth c H locs 0 0 Q (F0 m 2 ls []) := by
    intro fuel
    induction fuel with
    | zero =>
      intro i gs' hi h1 hfu
      exfalso; omega
    | succ fuel ihLA =>
      intro i gs' hi h1 hfu H locs ls hP hD hS hl
      refine lv_iload_n hx hb dX1_sortByLeft_2 rfl (lv_at hl 1 rfl) ?_
      refine lv_aload_n hx hb dX1_sortByLeft_3 rfl (lv_at hl 0 rfl) ?_
      refine va_get (D := D) (ci := 1) (v := .int (jI wd)) (C := RX1) (T := TX1) (N := 12) hx hb hts inX1 hown hK hP 0 rfl rfl 10 (by decide) f44 (fun _ h9 => h9) rfl dX1_sortByLeft_4 ?_
      refine jv_icmp_gt (tgt := 23) hx hb ⟨by omega, by omega⟩ ⟨by omega, by omega⟩ dX1_sortByLeft_7 (by decide) (fun c7 => ?_) (fun c7 => ?_)
      · skip
        refine jv_iconst hx hb dX1_sortByLeft_23 ?_
        refine lv_istore_n (lv' := [(1, .int (jI 0)), (0, .ref o)]) hx hb dX1_sortByLeft_24 rfl hl (by decide) rfl (fun ls hl => ?_)
        exact LB ((sz - 0).toNat + 1) 0 gs' (by omega) (fun x q1 q2 => by rw [cn_0 (Int.le_refl 0)]; exact h1 x q1 (by omega)) (by omega) _ _ _ (hP.sub [0, 1, 2, 3, 4, 5, 6, 7] rfl) (hD.sub [0, 1, 2, 3, 4, 5, 6, 7] (by decide) rfl) hS (lv_sub hl [1, 0] rfl)
      · skip
        refine lv_aload_n hx hb dX1_sortByLeft_10 rfl (lv_at hl 0 rfl) ?_
        refine va_get (D := D) (ci := 1) (v := .ref a5) (C := RX1) (T := TX1) (N := 12) hx hb hts inX1 hown hK hP 0 rfl rfl 5 (by decide) f27 (fun _ h9 => h9) rfl dX1_sortByLeft_11 ?_
        refine lv_iload_n hx hb dX1_sortByLeft_14 rfl (lv_at hl 1 rfl) ?_
        refine jv_iconst hx hb dX1_sortByLeft_15 ?_
        refine jv_iast hx hb hK hP hD hS 6 0 rfl rfl (i := i) (x := 0) ⟨by omega, by omega⟩ (Nat.le_of_ble_eq_true rfl) dX1_sortByLeft_16 (fun H locs hP hD hS => ?_)
        have hP : va_P D jcl [(o, .inr (1, [.ref a0, .ref a1, .ref a2, .ref a3, .ref a4, .ref a5, .ref a6, .int (jI sz), .int (jI wx), .int (jI wy), .int (jI wd), .int (jI hg)])), (a0, .inl (g.1, n, .inl (aI gx))), (a1, .inl (g.1, n, .inl (aI gy))), (a2, .inl (g.1, n, .inl (aI gu))), (a3, .inl (g.1, n, .inl (aI gv))), (a4, .inl (g.1, n, .inl (aI gb))), (a5, .inl (g.1, 1001, .inl (aI (upI gs' i 0)))), (a6, .inl (g.2.2, 1001, .inl (aI gc)))] H := hP
        have hD : va_D A [(o, .inr (1, [.ref a0, .ref a1, .ref a2, .ref a3, .ref a4, .ref a5, .ref a6, .int (jI sz), .int (jI wx), .int (jI wy), .int (jI wd), .int (jI hg)])), (a0, .inl (g.1, n, .inl (aI gx))), (a1, .inl (g.1, n, .inl (aI gy))), (a2, .inl (g.1, n, .inl (aI gu))), (a3, .inl (g.1, n, .inl (aI gv))), (a4, .inl (g.1, n, .inl (aI gb))), (a5, .inl (g.1, 1001, .inl (aI (upI gs' i 0)))), (a6, .inl (g.2.2, 1001, .inl (aI gc)))] := hD
        refine jv_iinc (lv2 := [(1, .int (jI (i + 1))), (0, .ref o)]) hx hb dX1_sortByLeft_17 hl (k := 1) rfl (by decide) rfl (fun ls hl => ?_)
        refine lv_goto (tgt := 2) hx hb dX1_sortByLeft_20 (by decide) ?_
        exact ihLA (i + 1) (upI gs' i 0) (by omega) (fun x q1 q2 => by
              by_cases q3 : x = i
              · rw [q3, upI_eq]
              · rw [upI_ne _ _ q3]; exact h1 x q1 (by omega)) (by omega) _ _ _ (hP.sub [0, 1, 2, 3, 4, 5, 6, 7] rfl) (hD.sub [0, 1, 2, 3, 4, 5, 6, 7] (by decide) rfl) hS (lv_sub hl [1, 0] rfl)
  refine jv_iconst hx hb dX1_sortByLeft_0 ?_
  refine lv_istore_n (lv' := [(1, .int (jI 0)), (0, .ref o)]) hx hb dX1_sortByLeft_1 rfl hl (by decide) rfl (fun ls hl => ?_)
  exact LA ((wd + 2 - 0).toNat + 1) 0 gs (by omega) (fun x _ _ => by omega) (by omega) _ _ _ (hP.sub [0, 1, 2, 3, 4, 5, 6, 7] rfl) (hD.sub [0, 1, 2, 3, 4, 5, 6, 7] (by decide) rfl) hS (lv_sub hl [1, 0] rfl)

set_option maxHeartbeats 4000000 in
set_option maxRecDepth 100000 in
/-- Cover.markCuts -/
theorem tX1_markCuts (l : Launch) (D : va_G) (g : ClassId × ClassId × ClassId) (o : Nat) (a0 : Nat) (a1 : Nat) (a2 : Nat) (a3 : Nat) (a4 : Nat) (a5 : Nat) (a6 : Nat) (n : Nat) (gx : Int → Int) (gy : Int → Int) (gu : Int → Int) (gv : Int → Int) (gb : Int → Int) (gs : Int → Int) (gc : Int → Int) (sz : Int) (wx : Int) (wy : Int) (wd : Int) (hg : Int) (R : List jQ) (hn : n < 2147483648 ∧ (R.length : Int) ≤ (n : Int)) (hcv : cv gx gy gu gv sz wx wy wd hg R) : jMv l D g yX1_markCuts wsX1_markCuts 1 23 [.ref o] [(o, .inr (1, [.ref a0, .ref a1, .ref a2, .ref a3, .ref a4, .ref a5, .ref a6, .int (jI sz), .int (jI wx), .int (jI wy), .int (jI wd), .int (jI hg)])), (a0, .inl (g.1, n, .inl (aI gx))), (a1, .inl (g.1, n, .inl (aI gy))), (a2, .inl (g.1, n, .inl (aI gu))), (a3, .inl (g.1, n, .inl (aI gv))), (a4, .inl (g.1, n, .inl (aI gb))), (a5, .inl (g.1, 1001, .inl (aI gs))), (a6, .inl (g.2.2, 1001, .inl (aI gc)))] (S := (Int → Int)) (fun u => cts gy gv u sz hg) (fun u => [(o, .inr (1, [.ref a0, .ref a1, .ref a2, .ref a3, .ref a4, .ref a5, .ref a6, .int (jI sz), .int (jI wx), .int (jI wy), .int (jI wd), .int (jI hg)])), (a0, .inl (g.1, n, .inl (aI gx))), (a1, .inl (g.1, n, .inl (aI gy))), (a2, .inl (g.1, n, .inl (aI gu))), (a3, .inl (g.1, n, .inl (aI gv))), (a4, .inl (g.1, n, .inl (aI gb))), (a5, .inl (g.1, 1001, .inl (aI gs))), (a6, .inl (g.2.2, 1001, .inl (aI u)))]) := by
  refine jMv_of (cc := cX1_markCuts) (maxL := 2) (by decide) rfl (Nat.le_of_ble_eq_true rfl) ?_
  intro p e s m args below meth c Q A hx hb hml hts hown hK hA hret ls hl hP hD
  have hS : va_S A s.heap s.heap [] := va_S.rf
  have hown : s.vm.findClass RX1 = some m.cls := hown
  have f15 := hts (.fieldLink RX1 15 "AntennaFill$Cover" "y0" "[I") (by decide +kernel)
  have f21 := hts (.fieldLink RX1 21 "AntennaFill$Cover" "y1" "[I") (by decide +kernel)
  have f30 := hts (.fieldLink RX1 30 "AntennaFill$Cover" "cuts" "[Z") (by decide +kernel)
  have f34 := hts (.fieldLink RX1 34 "AntennaFill$Cover" "size" "I") (by decide +kernel)
  have f47 := hts (.fieldLink RX1 47 "AntennaFill$Cover" "high" "I") (by decide +kernel)
  have inX1 : ∀ w ∈ wsX10, w ∈ wsX1_markCuts := by decide +kernel
  have hl : lv_has ls 2 [(0, .ref o)] := hl
  have hcw := hcv.2.1
  have hcz := hcv.2.2.1
  have hcr := hcv.2.2.2.1
  have hco := hcv.1
  have LB : ∀ (fuel : Nat) (i : Int) (gc' : Int → Int), (0 ≤ i ∧ i ≤ sz) → (cts gy gv gc' i hg) → (sz - i < (fuel : Int)) → ∀ (H : Heap) (locs : List Loc) (ls : Array Slot), va_P D jcl [(o, .inr (1, [.ref a0, .ref a1, .ref a2, .ref a3, .ref a4, .ref a5, .ref a6, .int (jI sz), .int (jI wx), .int (jI wy), .int (jI wd), .int (jI hg)])), (a0, .inl (g.1, n, .inl (aI gx))), (a1, .inl (g.1, n, .inl (aI gy))), (a2, .inl (g.1, n, .inl (aI gu))), (a3, .inl (g.1, n, .inl (aI gv))), (a4, .inl (g.1, n, .inl (aI gb))), (a5, .inl (g.1, 1001, .inl (aI gs))), (a6, .inl (g.2.2, 1001, .inl (aI gc')))] H → va_D A [(o, .inr (1, [.ref a0, .ref a1, .ref a2, .ref a3, .ref a4, .ref a5, .ref a6, .int (jI sz), .int (jI wx), .int (jI wy), .int (jI wd), .int (jI hg)])), (a0, .inl (g.1, n, .inl (aI gx))), (a1, .inl (g.1, n, .inl (aI gy))), (a2, .inl (g.1, n, .inl (aI gu))), (a3, .inl (g.1, n, .inl (aI gv))), (a4, .inl (g.1, n, .inl (aI gb))), (a5, .inl (g.1, 1001, .inl (aI gs))), (a6, .inl (g.2.2, 1001, .inl (aI gc')))] → va_S A s.heap H locs → lv_has ls 2 [(0, .ref o), (1, .int (jI i))] → W p l e (jR 1 23) s m args below meth c H locs 0 0 Q (F0 m 25 ls []) := by
    intro fuel
    induction fuel with
    | zero =>
      intro i gc' hi h1 hfu
      exfalso; omega
    | succ fuel ihLB =>
      intro i gc' hi h1 hfu H locs ls hP hD hS hl
      refine lv_iload_n hx hb dX1_markCuts_25 rfl (lv_at hl 1 rfl) ?_
      refine lv_aload_n hx hb dX1_markCuts_26 rfl (lv_at hl 0 rfl) ?_
      refine va_get (D := D) (ci := 1) (v := .int (jI sz)) (C := RX1) (T := TX1) (N := 12) hx hb hts inX1 hown hK hP 0 rfl rfl 7 (by decide) f34 (fun _ h9 => h9) rfl dX1_markCuts_27 ?_
      refine jv_icmp_ge (tgt := 63) hx hb ⟨by omega, by omega⟩ ⟨by omega, by omega⟩ dX1_markCuts_30 (by decide) (fun c30 => ?_) (fun c30 => ?_)
      · skip
        exact hret  gc' _ _ _ _ (by rw [show sz = i by omega]; exact h1) (hP.sub [0, 1, 2, 3, 4, 5, 6, 7] rfl) (hD.sub [0, 1, 2, 3, 4, 5, 6, 7] (by decide) rfl) hS dX1_markCuts_63
      · skip
        have hr := hcr i hi.1 (by omega)
        refine lv_aload_n hx hb dX1_markCuts_33 rfl (lv_at hl 0 rfl) ?_
        refine va_get (D := D) (ci := 1) (v := .ref a6) (C := RX1) (T := TX1) (N := 12) hx hb hts inX1 hown hK hP 0 rfl rfl 6 (by decide) f30 (fun _ h9 => h9) rfl dX1_markCuts_34 ?_
        refine lv_aload_n hx hb dX1_markCuts_37 rfl (lv_at hl 0 rfl) ?_
        refine va_get (D := D) (ci := 1) (v := .ref a1) (C := RX1) (T := TX1) (N := 12) hx hb hts inX1 hown hK hP 0 rfl rfl 1 (by decide) f15 (fun _ h9 => h9) rfl dX1_markCuts_38 ?_
        refine lv_iload_n hx hb dX1_markCuts_41 rfl (lv_at hl 1 rfl) ?_
        refine jv_iald hx hb hK hP 2 0 rfl rfl (i := i) ⟨by omega, by omega⟩ hn.1 dX1_markCuts_42 ?_
        refine jv_iconst hx hb dX1_markCuts_43 ?_
        refine jv_zast hx hb hK hP hD hS 7 2 rfl rfl (i := (gy i)) (x := 1) (by decide) ⟨by omega, by omega⟩ (Nat.le_of_ble_eq_true rfl) dX1_markCuts_44 (fun H locs hP hD hS => ?_)
        have hP : va_P D jcl [(o, .inr (1, [.ref a0, .ref a1, .ref a2, .ref a3, .ref a4, .ref a5, .ref a6, .int (jI sz), .int (jI wx), .int (jI wy), .int (jI wd), .int (jI hg)])), (a0, .inl (g.1, n, .inl (aI gx))), (a1, .inl (g.1, n, .inl (aI gy))), (a2, .inl (g.1, n, .inl (aI gu))), (a3, .inl (g.1, n, .inl (aI gv))), (a4, .inl (g.1, n, .inl (aI gb))), (a5, .inl (g.1, 1001, .inl (aI gs))), (a6, .inl (g.2.2, 1001, .inl (aI (upI gc' (gy i) 1))))] H := hP
        have hD : va_D A [(o, .inr (1, [.ref a0, .ref a1, .ref a2, .ref a3, .ref a4, .ref a5, .ref a6, .int (jI sz), .int (jI wx), .int (jI wy), .int (jI wd), .int (jI hg)])), (a0, .inl (g.1, n, .inl (aI gx))), (a1, .inl (g.1, n, .inl (aI gy))), (a2, .inl (g.1, n, .inl (aI gu))), (a3, .inl (g.1, n, .inl (aI gv))), (a4, .inl (g.1, n, .inl (aI gb))), (a5, .inl (g.1, 1001, .inl (aI gs))), (a6, .inl (g.2.2, 1001, .inl (aI (upI gc' (gy i) 1))))] := hD
        refine lv_aload_n hx hb dX1_markCuts_45 rfl (lv_at hl 0 rfl) ?_
        refine va_get (D := D) (ci := 1) (v := .ref a6) (C := RX1) (T := TX1) (N := 12) hx hb hts inX1 hown hK hP 0 rfl rfl 6 (by decide) f30 (fun _ h9 => h9) rfl dX1_markCuts_46 ?_
        refine lv_aload_n hx hb dX1_markCuts_49 rfl (lv_at hl 0 rfl) ?_
        refine va_get (D := D) (ci := 1) (v := .ref a3) (C := RX1) (T := TX1) (N := 12) hx hb hts inX1 hown hK hP 0 rfl rfl 3 (by decide) f21 (fun _ h9 => h9) rfl dX1_markCuts_50 ?_
        refine lv_iload_n hx hb dX1_markCuts_53 rfl (lv_at hl 1 rfl) ?_
        refine jv_iald hx hb hK hP 4 0 rfl rfl (i := i) ⟨by omega, by omega⟩ hn.1 dX1_markCuts_54 ?_
        refine jv_iconst hx hb dX1_markCuts_55 ?_
        refine jv_zast hx hb hK hP hD hS 7 2 rfl rfl (i := (gv i)) (x := 1) (by decide) ⟨by omega, by omega⟩ (Nat.le_of_ble_eq_true rfl) dX1_markCuts_56 (fun H locs hP hD hS => ?_)
        have hP : va_P D jcl [(o, .inr (1, [.ref a0, .ref a1, .ref a2, .ref a3, .ref a4, .ref a5, .ref a6, .int (jI sz), .int (jI wx), .int (jI wy), .int (jI wd), .int (jI hg)])), (a0, .inl (g.1, n, .inl (aI gx))), (a1, .inl (g.1, n, .inl (aI gy))), (a2, .inl (g.1, n, .inl (aI gu))), (a3, .inl (g.1, n, .inl (aI gv))), (a4, .inl (g.1, n, .inl (aI gb))), (a5, .inl (g.1, 1001, .inl (aI gs))), (a6, .inl (g.2.2, 1001, .inl (aI (upI (upI gc' (gy i) 1) (gv i) 1))))] H := hP
        have hD : va_D A [(o, .inr (1, [.ref a0, .ref a1, .ref a2, .ref a3, .ref a4, .ref a5, .ref a6, .int (jI sz), .int (jI wx), .int (jI wy), .int (jI wd), .int (jI hg)])), (a0, .inl (g.1, n, .inl (aI gx))), (a1, .inl (g.1, n, .inl (aI gy))), (a2, .inl (g.1, n, .inl (aI gu))), (a3, .inl (g.1, n, .inl (aI gv))), (a4, .inl (g.1, n, .inl (aI gb))), (a5, .inl (g.1, 1001, .inl (aI gs))), (a6, .inl (g.2.2, 1001, .inl (aI (upI (upI gc' (gy i) 1) (gv i) 1))))] := hD
        refine jv_iinc (lv2 := [(1, .int (jI (i + 1))), (0, .ref o)]) hx hb dX1_markCuts_57 hl (k := 1) rfl (by decide) rfl (fun ls hl => ?_)
        refine lv_goto (tgt := 25) hx hb dX1_markCuts_60 (by decide) ?_
        exact ihLB (i + 1) (upI (upI gc' (gy i) 1) (gv i) 1) (by omega) (cts_s h1 hi.1) (by omega) _ _ _ (hP.sub [0, 1, 2, 3, 4, 5, 6, 7] rfl) (hD.sub [0, 1, 2, 3, 4, 5, 6, 7] (by decide) rfl) hS (lv_sub hl [1, 0] rfl)
  have LA : ∀ (fuel : Nat) (i : Int) (gc' : Int → Int), (0 ≤ i ∧ i ≤ hg + 1) → (∀ x, 0 ≤ x → x < i → gc' x = 0) → (hg + 2 - i < (fuel : Int)) → ∀ (H : Heap) (locs : List Loc) (ls : Array Slot), va_P D jcl [(o, .inr (1, [.ref a0, .ref a1, .ref a2, .ref a3, .ref a4, .ref a5, .ref a6, .int (jI sz), .int (jI wx), .int (jI wy), .int (jI wd), .int (jI hg)])), (a0, .inl (g.1, n, .inl (aI gx))), (a1, .inl (g.1, n, .inl (aI gy))), (a2, .inl (g.1, n, .inl (aI gu))), (a3, .inl (g.1, n, .inl (aI gv))), (a4, .inl (g.1, n, .inl (aI gb))), (a5, .inl (g.1, 1001, .inl (aI gs))), (a6, .inl (g.2.2, 1001, .inl (aI gc')))] H → va_D A [(o, .inr (1, [.ref a0, .ref a1, .ref a2, .ref a3, .ref a4, .ref a5, .ref a6, .int (jI sz), .int (jI wx), .int (jI wy), .int (jI wd), .int (jI hg)])), (a0, .inl (g.1, n, .inl (aI gx))), (a1, .inl (g.1, n, .inl (aI gy))), (a2, .inl (g.1, n, .inl (aI gu))), (a3, .inl (g.1, n, .inl (aI gv))), (a4, .inl (g.1, n, .inl (aI gb))), (a5, .inl (g.1, 1001, .inl (aI gs))), (a6, .inl (g.2.2, 1001, .inl (aI gc')))] → va_S A s.heap H locs → lv_has ls 2 [(0, .ref o), (1, .int (jI i))] → W p l e (jR 1 23) s m args below meth c H locs 0 0 Q (F0 m 2 ls []) := by
    intro fuel
    induction fuel with
    | zero =>
      intro i gc' hi h1 hfu
      exfalso; omega
    | succ fuel ihLA =>
      intro i gc' hi h1 hfu H locs ls hP hD hS hl
      refine lv_iload_n hx hb dX1_markCuts_2 rfl (lv_at hl 1 rfl) ?_
      refine lv_aload_n hx hb dX1_markCuts_3 rfl (lv_at hl 0 rfl) ?_
      refine va_get (D := D) (ci := 1) (v := .int (jI hg)) (C := RX1) (T := TX1) (N := 12) hx hb hts inX1 hown hK hP 0 rfl rfl 11 (by decide) f47 (fun _ h9 => h9) rfl dX1_markCuts_4 ?_
      refine jv_icmp_gt (tgt := 23) hx hb ⟨by omega, by omega⟩ ⟨by omega, by omega⟩ dX1_markCuts_7 (by decide) (fun c7 => ?_) (fun c7 => ?_)
      · skip
        refine jv_iconst hx hb dX1_markCuts_23 ?_
        refine lv_istore_n (lv' := [(1, .int (jI 0)), (0, .ref o)]) hx hb dX1_markCuts_24 rfl hl (by decide) rfl (fun ls hl => ?_)
        exact LB ((sz - 0).toNat + 1) 0 gc' (by omega) (cts_0 fun x q1 q2 => h1 x q1 (by omega)) (by omega) _ _ _ (hP.sub [0, 1, 2, 3, 4, 5, 6, 7] rfl) (hD.sub [0, 1, 2, 3, 4, 5, 6, 7] (by decide) rfl) hS (lv_sub hl [1, 0] rfl)
      · skip
        refine lv_aload_n hx hb dX1_markCuts_10 rfl (lv_at hl 0 rfl) ?_
        refine va_get (D := D) (ci := 1) (v := .ref a6) (C := RX1) (T := TX1) (N := 12) hx hb hts inX1 hown hK hP 0 rfl rfl 6 (by decide) f30 (fun _ h9 => h9) rfl dX1_markCuts_11 ?_
        refine lv_iload_n hx hb dX1_markCuts_14 rfl (lv_at hl 1 rfl) ?_
        refine jv_iconst hx hb dX1_markCuts_15 ?_
        refine jv_zast hx hb hK hP hD hS 7 2 rfl rfl (i := i) (x := 0) (by decide) ⟨by omega, by omega⟩ (Nat.le_of_ble_eq_true rfl) dX1_markCuts_16 (fun H locs hP hD hS => ?_)
        have hP : va_P D jcl [(o, .inr (1, [.ref a0, .ref a1, .ref a2, .ref a3, .ref a4, .ref a5, .ref a6, .int (jI sz), .int (jI wx), .int (jI wy), .int (jI wd), .int (jI hg)])), (a0, .inl (g.1, n, .inl (aI gx))), (a1, .inl (g.1, n, .inl (aI gy))), (a2, .inl (g.1, n, .inl (aI gu))), (a3, .inl (g.1, n, .inl (aI gv))), (a4, .inl (g.1, n, .inl (aI gb))), (a5, .inl (g.1, 1001, .inl (aI gs))), (a6, .inl (g.2.2, 1001, .inl (aI (upI gc' i 0))))] H := hP
        have hD : va_D A [(o, .inr (1, [.ref a0, .ref a1, .ref a2, .ref a3, .ref a4, .ref a5, .ref a6, .int (jI sz), .int (jI wx), .int (jI wy), .int (jI wd), .int (jI hg)])), (a0, .inl (g.1, n, .inl (aI gx))), (a1, .inl (g.1, n, .inl (aI gy))), (a2, .inl (g.1, n, .inl (aI gu))), (a3, .inl (g.1, n, .inl (aI gv))), (a4, .inl (g.1, n, .inl (aI gb))), (a5, .inl (g.1, 1001, .inl (aI gs))), (a6, .inl (g.2.2, 1001, .inl (aI (upI gc' i 0))))] := hD
        refine jv_iinc (lv2 := [(1, .int (jI (i + 1))), (0, .ref o)]) hx hb dX1_markCuts_17 hl (k := 1) rfl (by decide) rfl (fun ls hl => ?_)
        refine lv_goto (tgt := 2) hx hb dX1_markCuts_20 (by decide) ?_
        exact ihLA (i + 1) (upI gc' i 0) (by omega) (fun x q1 q2 => by
              by_cases q3 : x = i
              · rw [q3, upI_eq]
              · rw [upI_ne _ _ q3]; exact h1 x q1 (by omega)) (by omega) _ _ _ (hP.sub [0, 1, 2, 3, 4, 5, 6, 7] rfl) (hD.sub [0, 1, 2, 3, 4, 5, 6, 7] (by decide) rfl) hS (lv_sub hl [1, 0] rfl)
  refine jv_iconst hx hb dX1_markCuts_0 ?_
  refine lv_istore_n (lv' := [(1, .int (jI 0)), (0, .ref o)]) hx hb dX1_markCuts_1 rfl hl (by decide) rfl (fun ls hl => ?_)
  exact LA ((hg + 2 - 0).toNat + 1) 0 gc (by omega) (fun x _ _ => by omega) (by omega) _ _ _ (hP.sub [0, 1, 2, 3, 4, 5, 6, 7] rfl) (hD.sub [0, 1, 2, 3, 4, 5, 6, 7] (by decide) rfl) hS (lv_sub hl [1, 0] rfl)

set_option maxHeartbeats 4000000 in
set_option maxRecDepth 100000 in
/-- Cover.lengthInRow -/
theorem tX1_lengthInRow (l : Launch) (D : va_G) (g : ClassId × ClassId × ClassId) (o : Nat) (a0 : Nat) (a1 : Nat) (a2 : Nat) (a3 : Nat) (a4 : Nat) (a5 : Nat) (a6 : Nat) (n : Nat) (gx : Int → Int) (gy : Int → Int) (gu : Int → Int) (gv : Int → Int) (gb : Int → Int) (gs : Int → Int) (gc : Int → Int) (sz : Int) (wx : Int) (wy : Int) (wd : Int) (hg : Int) (R : List jQ) (yy : Int) (hn : n < 2147483648 ∧ (R.length : Int) ≤ (n : Int)) (hyy : 0 ≤ yy ∧ yy < hg) (hsr : srt gx sz gb) (hcv : cv gx gy gu gv sz wx wy wd hg R) : jMi l D g yX1_lengthInRow wsX1_lengthInRow 1 26 [.ref o, .int (jI yy)] [(o, .inr (1, [.ref a0, .ref a1, .ref a2, .ref a3, .ref a4, .ref a5, .ref a6, .int (jI sz), .int (jI wx), .int (jI wy), .int (jI wd), .int (jI hg)])), (a0, .inl (g.1, n, .inl (aI gx))), (a1, .inl (g.1, n, .inl (aI gy))), (a2, .inl (g.1, n, .inl (aI gu))), (a3, .inl (g.1, n, .inl (aI gv))), (a4, .inl (g.1, n, .inl (aI gb))), (a5, .inl (g.1, 1001, .inl (aI gs))), (a6, .inl (g.2.2, 1001, .inl (aI gc)))] (S := Unit) (fun z _ => z = cn (fun x => covL R (x + wx) (yy + wy)) 0 wd) (fun _ => [(o, .inr (1, [.ref a0, .ref a1, .ref a2, .ref a3, .ref a4, .ref a5, .ref a6, .int (jI sz), .int (jI wx), .int (jI wy), .int (jI wd), .int (jI hg)])), (a0, .inl (g.1, n, .inl (aI gx))), (a1, .inl (g.1, n, .inl (aI gy))), (a2, .inl (g.1, n, .inl (aI gu))), (a3, .inl (g.1, n, .inl (aI gv))), (a4, .inl (g.1, n, .inl (aI gb))), (a5, .inl (g.1, 1001, .inl (aI gs))), (a6, .inl (g.2.2, 1001, .inl (aI gc)))]) := by
  refine jMi_of (cc := cX1_lengthInRow) (maxL := 6) (by decide) rfl (Nat.le_of_ble_eq_true rfl) ?_
  intro p e s m args below meth c Q A hx hb hml hts hown hK hA hret ls hl hP hD
  have hS : va_S A s.heap s.heap [] := va_S.rf
  have hown : s.vm.findClass RX1 = some m.cls := hown
  have f9 := hts (.fieldLink RX1 9 "AntennaFill$Cover" "x0" "[I") (by decide +kernel)
  have f15 := hts (.fieldLink RX1 15 "AntennaFill$Cover" "y0" "[I") (by decide +kernel)
  have f18 := hts (.fieldLink RX1 18 "AntennaFill$Cover" "x1" "[I") (by decide +kernel)
  have f21 := hts (.fieldLink RX1 21 "AntennaFill$Cover" "y1" "[I") (by decide +kernel)
  have f24 := hts (.fieldLink RX1 24 "AntennaFill$Cover" "byLeft" "[I") (by decide +kernel)
  have f34 := hts (.fieldLink RX1 34 "AntennaFill$Cover" "size" "I") (by decide +kernel)
  have inX1 : ∀ w ∈ wsX10, w ∈ wsX1_lengthInRow := by decide +kernel
  have m67 := hts (.methodLink RX1 67 Lib.Math.max.name) (by decide +kernel)
  have s67 := hts (.static Lib.Math.max.name) (by decide +kernel)
  have c67 := hts (.code Lib.Math.max.name Lib.Math.max.code 2 (some .int)) (by decide +kernel)
  have iM := hts (.initialized "java/lang/Math") (by decide +kernel)
  have hl : lv_has ls 6 [(0, .ref o), (1, .int (jI yy))] := hl
  have hcw := hcv.2.1
  have hcz := hcv.2.2.1
  have hcr := hcv.2.2.2.1
  have hco := hcv.1
  have L7 : ∀ (fuel : Nat) (i : Int) (len : Int) (rch : Int), (0 ≤ i ∧ i ≤ sz) → (lir gx gy gu gv gb sz wd yy i len rch) → (sz - i < (fuel : Int)) → ∀ (H : Heap) (locs : List Loc) (ls : Array Slot), va_P D jcl [(o, .inr (1, [.ref a0, .ref a1, .ref a2, .ref a3, .ref a4, .ref a5, .ref a6, .int (jI sz), .int (jI wx), .int (jI wy), .int (jI wd), .int (jI hg)])), (a0, .inl (g.1, n, .inl (aI gx))), (a1, .inl (g.1, n, .inl (aI gy))), (a2, .inl (g.1, n, .inl (aI gu))), (a3, .inl (g.1, n, .inl (aI gv))), (a4, .inl (g.1, n, .inl (aI gb))), (a5, .inl (g.1, 1001, .inl (aI gs))), (a6, .inl (g.2.2, 1001, .inl (aI gc)))] H → va_D A [(o, .inr (1, [.ref a0, .ref a1, .ref a2, .ref a3, .ref a4, .ref a5, .ref a6, .int (jI sz), .int (jI wx), .int (jI wy), .int (jI wd), .int (jI hg)])), (a0, .inl (g.1, n, .inl (aI gx))), (a1, .inl (g.1, n, .inl (aI gy))), (a2, .inl (g.1, n, .inl (aI gu))), (a3, .inl (g.1, n, .inl (aI gv))), (a4, .inl (g.1, n, .inl (aI gb))), (a5, .inl (g.1, 1001, .inl (aI gs))), (a6, .inl (g.2.2, 1001, .inl (aI gc)))] → va_S A s.heap H locs → lv_has ls 6 [(0, .ref o), (1, .int (jI yy)), (2, .int (jI len)), (3, .int (jI rch)), (4, .int (jI i))] → W p l e (jR 1 26) s m args below meth c H locs 0 0 Q (F0 m 7 ls []) := by
    intro fuel
    induction fuel with
    | zero =>
      intro i len rch hi hl2 hfu
      exfalso; omega
    | succ fuel ihL7 =>
      intro i len rch hi hl2 hfu H locs ls hP hD hS hl
      have hl3 := hl2
      unfold lir at hl3
      refine lv_iload hx hb dX1_lengthInRow_7 (lv_at hl 4 rfl) ?_
      refine lv_aload_n hx hb dX1_lengthInRow_9 rfl (lv_at hl 0 rfl) ?_
      refine va_get (D := D) (ci := 1) (v := .int (jI sz)) (C := RX1) (T := TX1) (N := 12) hx hb hts inX1 hown hK hP 0 rfl rfl 7 (by decide) f34 (fun _ h9 => h9) rfl dX1_lengthInRow_10 ?_
      refine jv_icmp_ge (tgt := 94) hx hb ⟨by omega, by omega⟩ ⟨by omega, by omega⟩ dX1_lengthInRow_13 (by decide) (fun c13 => ?_) (fun c13 => ?_)
      · skip
        refine lv_iload_n hx hb dX1_lengthInRow_94 rfl (lv_at hl 2 rfl) ?_
        exact hret len () _ _ _ _ (by
          have e9 : i = sz := by omega
          subst e9
          exact lir_e hl2 hsr hcv hyy) (hP.sub [0, 1, 2, 3, 4, 5, 6, 7] rfl) (hD.sub [0, 1, 2, 3, 4, 5, 6, 7] (by decide) rfl) hS dX1_lengthInRow_95
      · skip
        have hsi := srt_in hsr (n := i) ⟨hl3.1.1, by omega⟩
        have hr := hcr (gb i) hsi.1 hsi.2.1
        refine lv_aload_n hx hb dX1_lengthInRow_16 rfl (lv_at hl 0 rfl) ?_
        refine va_get (D := D) (ci := 1) (v := .ref a4) (C := RX1) (T := TX1) (N := 12) hx hb hts inX1 hown hK hP 0 rfl rfl 4 (by decide) f24 (fun _ h9 => h9) rfl dX1_lengthInRow_17 ?_
        refine lv_iload hx hb dX1_lengthInRow_20 (lv_at hl 4 rfl) ?_
        refine jv_iald hx hb hK hP 5 0 rfl rfl (i := i) ⟨by omega, by omega⟩ hn.1 dX1_lengthInRow_22 ?_
        refine lv_istore (lv' := [(5, .int (jI (gb i))), (0, .ref o), (1, .int (jI yy)), (2, .int (jI len)), (3, .int (jI rch)), (4, .int (jI i))]) hx hb dX1_lengthInRow_23 hl (by decide) rfl (fun ls hl => ?_)
        refine lv_aload_n hx hb dX1_lengthInRow_25 rfl (lv_at hl 1 rfl) ?_
        refine va_get (D := D) (ci := 1) (v := .ref a1) (C := RX1) (T := TX1) (N := 12) hx hb hts inX1 hown hK hP 0 rfl rfl 1 (by decide) f15 (fun _ h9 => h9) rfl dX1_lengthInRow_26 ?_
        refine lv_iload hx hb dX1_lengthInRow_29 (lv_at hl 0 rfl) ?_
        refine jv_iald hx hb hK hP 2 0 rfl rfl (i := (gb i)) ⟨by omega, by omega⟩ hn.1 dX1_lengthInRow_31 ?_
        refine lv_iload_n hx hb dX1_lengthInRow_32 rfl (lv_at hl 2 rfl) ?_
        refine jv_icmp_gt (tgt := 88) hx hb ⟨by omega, by omega⟩ ⟨by omega, by omega⟩ dX1_lengthInRow_33 (by decide) (fun c33 => ?_) (fun c33 => ?_)
        · skip
          refine jv_iinc (lv2 := [(4, .int (jI (i + 1))), (5, .int (jI (gb i))), (0, .ref o), (1, .int (jI yy)), (2, .int (jI len)), (3, .int (jI rch))]) hx hb dX1_lengthInRow_88 hl (k := 5) rfl (by decide) rfl (fun ls hl => ?_)
          refine lv_goto (tgt := 7) hx hb dX1_lengthInRow_91 (by decide) ?_
          exact ihL7 (i + 1) len rch (by omega) (by
              first
              | exact lir_y hl2 (by omega) (by omega)
              | exact lir_r hl2 hsr (by omega) (by omega)
              | (rw [eln2, erc2, emx]; exact lir_a hl2 hsr hcr (by omega) (by omega) c55)) (by omega) _ _ _ (hP.sub [0, 1, 2, 3, 4, 5, 6, 7] rfl) (hD.sub [0, 1, 2, 3, 4, 5, 6, 7] (by decide) rfl) hS (lv_sub hl [2, 3, 4, 5, 0] rfl)
        · skip
          refine lv_iload_n hx hb dX1_lengthInRow_36 rfl (lv_at hl 2 rfl) ?_
          refine lv_aload_n hx hb dX1_lengthInRow_37 rfl (lv_at hl 1 rfl) ?_
          refine va_get (D := D) (ci := 1) (v := .ref a3) (C := RX1) (T := TX1) (N := 12) hx hb hts inX1 hown hK hP 0 rfl rfl 3 (by decide) f21 (fun _ h9 => h9) rfl dX1_lengthInRow_38 ?_
          refine lv_iload hx hb dX1_lengthInRow_41 (lv_at hl 0 rfl) ?_
          refine jv_iald hx hb hK hP 4 0 rfl rfl (i := (gb i)) ⟨by omega, by omega⟩ hn.1 dX1_lengthInRow_43 ?_
          refine jv_icmp_ge (tgt := 88) hx hb ⟨by omega, by omega⟩ ⟨by omega, by omega⟩ dX1_lengthInRow_44 (by decide) (fun c44 => ?_) (fun c44 => ?_)
          · skip
            refine jv_iinc (lv2 := [(4, .int (jI (i + 1))), (5, .int (jI (gb i))), (0, .ref o), (1, .int (jI yy)), (2, .int (jI len)), (3, .int (jI rch))]) hx hb dX1_lengthInRow_88 hl (k := 5) rfl (by decide) rfl (fun ls hl => ?_)
            refine lv_goto (tgt := 7) hx hb dX1_lengthInRow_91 (by decide) ?_
            exact ihL7 (i + 1) len rch (by omega) (by
              first
              | exact lir_y hl2 (by omega) (by omega)
              | exact lir_r hl2 hsr (by omega) (by omega)
              | (rw [eln2, erc2, emx]; exact lir_a hl2 hsr hcr (by omega) (by omega) c55)) (by omega) _ _ _ (hP.sub [0, 1, 2, 3, 4, 5, 6, 7] rfl) (hD.sub [0, 1, 2, 3, 4, 5, 6, 7] (by decide) rfl) hS (lv_sub hl [2, 3, 4, 5, 0] rfl)
          · skip
            refine lv_aload_n hx hb dX1_lengthInRow_47 rfl (lv_at hl 1 rfl) ?_
            refine va_get (D := D) (ci := 1) (v := .ref a2) (C := RX1) (T := TX1) (N := 12) hx hb hts inX1 hown hK hP 0 rfl rfl 2 (by decide) f18 (fun _ h9 => h9) rfl dX1_lengthInRow_48 ?_
            refine lv_iload hx hb dX1_lengthInRow_51 (lv_at hl 0 rfl) ?_
            refine jv_iald hx hb hK hP 3 0 rfl rfl (i := (gb i)) ⟨by omega, by omega⟩ hn.1 dX1_lengthInRow_53 ?_
            refine lv_iload_n hx hb dX1_lengthInRow_54 rfl (lv_at hl 4 rfl) ?_
            refine jv_icmp_le (tgt := 88) hx hb ⟨by omega, by omega⟩ ⟨by omega, by omega⟩ dX1_lengthInRow_55 (by decide) (fun c55 => ?_) (fun c55 => ?_)
            · skip
              refine jv_iinc (lv2 := [(4, .int (jI (i + 1))), (5, .int (jI (gb i))), (0, .ref o), (1, .int (jI yy)), (2, .int (jI len)), (3, .int (jI rch))]) hx hb dX1_lengthInRow_88 hl (k := 5) rfl (by decide) rfl (fun ls hl => ?_)
              refine lv_goto (tgt := 7) hx hb dX1_lengthInRow_91 (by decide) ?_
              exact ihL7 (i + 1) len rch (by omega) (by
              first
              | exact lir_y hl2 (by omega) (by omega)
              | exact lir_r hl2 hsr (by omega) (by omega)
              | (rw [eln2, erc2, emx]; exact lir_a hl2 hsr hcr (by omega) (by omega) c55)) (by omega) _ _ _ (hP.sub [0, 1, 2, 3, 4, 5, 6, 7] rfl) (hD.sub [0, 1, 2, 3, 4, 5, 6, 7] (by decide) rfl) hS (lv_sub hl [2, 3, 4, 5, 0] rfl)
            · skip
              refine lv_iload_n hx hb dX1_lengthInRow_58 rfl (lv_at hl 3 rfl) ?_
              refine lv_aload_n hx hb dX1_lengthInRow_59 rfl (lv_at hl 1 rfl) ?_
              refine va_get (D := D) (ci := 1) (v := .ref a2) (C := RX1) (T := TX1) (N := 12) hx hb hts inX1 hown hK hP 0 rfl rfl 2 (by decide) f18 (fun _ h9 => h9) rfl dX1_lengthInRow_60 ?_
              refine lv_iload hx hb dX1_lengthInRow_63 (lv_at hl 0 rfl) ?_
              refine jv_iald hx hb hK hP 3 0 rfl rfl (i := (gb i)) ⟨by omega, by omega⟩ hn.1 dX1_lengthInRow_65 ?_
              refine lv_aload_n hx hb dX1_lengthInRow_66 rfl (lv_at hl 1 rfl) ?_
              refine va_get (D := D) (ci := 1) (v := .ref a0) (C := RX1) (T := TX1) (N := 12) hx hb hts inX1 hown hK hP 0 rfl rfl 0 (by decide) f9 (fun _ h9 => h9) rfl dX1_lengthInRow_67 ?_
              refine lv_iload hx hb dX1_lengthInRow_70 (lv_at hl 0 rfl) ?_
              refine jv_iald hx hb hK hP 1 0 rfl rfl (i := (gb i)) ⟨by omega, by omega⟩ hn.1 dX1_lengthInRow_72 ?_
              refine lv_iload_n hx hb dX1_lengthInRow_73 rfl (lv_at hl 4 rfl) ?_
              refine jv_max hx hb (hml.trans hl.1.symm) hown m67 s67 iM c67 (Nat.le_of_ble_eq_true rfl) (Nat.le_of_ble_eq_true rfl) (Nat.le_refl 0) (Nat.le_refl 0) ⟨by omega, by omega⟩ ⟨by omega, by omega⟩ dX1_lengthInRow_74 (fun mx emx => ?_)
              refine jv_isub hx hb dX1_lengthInRow_77 ?_
              refine jv_iadd hx hb dX1_lengthInRow_78 ?_
              refine jv_nm (fun ln2 eln2 => ?_)
              refine lv_istore_n (lv' := [(2, .int (jI ln2)), (5, .int (jI (gb i))), (0, .ref o), (1, .int (jI yy)), (3, .int (jI rch)), (4, .int (jI i))]) hx hb dX1_lengthInRow_79 rfl hl (by decide) rfl (fun ls hl => ?_)
              refine lv_aload_n hx hb dX1_lengthInRow_80 rfl (lv_at hl 2 rfl) ?_
              refine va_get (D := D) (ci := 1) (v := .ref a2) (C := RX1) (T := TX1) (N := 12) hx hb hts inX1 hown hK hP 0 rfl rfl 2 (by decide) f18 (fun _ h9 => h9) rfl dX1_lengthInRow_81 ?_
              refine lv_iload hx hb dX1_lengthInRow_84 (lv_at hl 1 rfl) ?_
              refine jv_iald hx hb hK hP 3 0 rfl rfl (i := (gb i)) ⟨by omega, by omega⟩ hn.1 dX1_lengthInRow_86 ?_
              refine jv_nm (fun rc2 erc2 => ?_)
              refine lv_istore_n (lv' := [(3, .int (jI rc2)), (2, .int (jI ln2)), (5, .int (jI (gb i))), (0, .ref o), (1, .int (jI yy)), (4, .int (jI i))]) hx hb dX1_lengthInRow_87 rfl hl (by decide) rfl (fun ls hl => ?_)
              refine jv_iinc (lv2 := [(4, .int (jI (i + 1))), (3, .int (jI rc2)), (2, .int (jI ln2)), (5, .int (jI (gb i))), (0, .ref o), (1, .int (jI yy))]) hx hb dX1_lengthInRow_88 hl (k := 5) rfl (by decide) rfl (fun ls hl => ?_)
              refine lv_goto (tgt := 7) hx hb dX1_lengthInRow_91 (by decide) ?_
              exact ihL7 (i + 1) ln2 rc2 (by omega) (by
              first
              | exact lir_y hl2 (by omega) (by omega)
              | exact lir_r hl2 hsr (by omega) (by omega)
              | (rw [eln2, erc2, emx]; exact lir_a hl2 hsr hcr (by omega) (by omega) c55)) (by omega) _ _ _ (hP.sub [0, 1, 2, 3, 4, 5, 6, 7] rfl) (hD.sub [0, 1, 2, 3, 4, 5, 6, 7] (by decide) rfl) hS (lv_sub hl [4, 5, 2, 1, 0] rfl)
  refine jv_iconst hx hb dX1_lengthInRow_0 ?_
  refine lv_istore_n (lv' := [(2, .int (jI 0)), (0, .ref o), (1, .int (jI yy))]) hx hb dX1_lengthInRow_1 rfl hl (by decide) rfl (fun ls hl => ?_)
  refine jv_iconst hx hb dX1_lengthInRow_2 ?_
  refine lv_istore_n (lv' := [(3, .int (jI 0)), (2, .int (jI 0)), (0, .ref o), (1, .int (jI yy))]) hx hb dX1_lengthInRow_3 rfl hl (by decide) rfl (fun ls hl => ?_)
  refine jv_iconst hx hb dX1_lengthInRow_4 ?_
  refine lv_istore (lv' := [(4, .int (jI 0)), (3, .int (jI 0)), (2, .int (jI 0)), (0, .ref o), (1, .int (jI yy))]) hx hb dX1_lengthInRow_5 hl (by decide) rfl (fun ls hl => ?_)
  exact L7 ((sz - 0).toNat + 1) 0 0 0 (by omega) (lir_0 hcz.1 hcw.1) (by omega) _ _ _ (hP.sub [0, 1, 2, 3, 4, 5, 6, 7] rfl) (hD.sub [0, 1, 2, 3, 4, 5, 6, 7] (by decide) rfl) hS (lv_sub hl [3, 4, 2, 1, 0] rfl)

set_option maxHeartbeats 4000000 in
set_option maxRecDepth 100000 in
/-- Cover.area -/
theorem tX1_area (l : Launch) (D : va_G) (g : ClassId × ClassId × ClassId) (o : Nat) (a0 : Nat) (a1 : Nat) (a2 : Nat) (a3 : Nat) (a4 : Nat) (a5 : Nat) (a6 : Nat) (n : Nat) (gx : Int → Int) (gy : Int → Int) (gu : Int → Int) (gv : Int → Int) (gb : Int → Int) (gs : Int → Int) (gc : Int → Int) (sz : Int) (wx : Int) (wy : Int) (wd : Int) (hg : Int) (R : List jQ) (hn : n < 2147483648 ∧ (R.length : Int) ≤ (n : Int)) (hcv : cv gx gy gu gv sz wx wy wd hg R) : jMl l D g yX1_area wsX1_area 2 52 [.ref o] [(o, .inr (1, [.ref a0, .ref a1, .ref a2, .ref a3, .ref a4, .ref a5, .ref a6, .int (jI sz), .int (jI wx), .int (jI wy), .int (jI wd), .int (jI hg)])), (a0, .inl (g.1, n, .inl (aI gx))), (a1, .inl (g.1, n, .inl (aI gy))), (a2, .inl (g.1, n, .inl (aI gu))), (a3, .inl (g.1, n, .inl (aI gv))), (a4, .inl (g.1, n, .inl (aI gb))), (a5, .inl (g.1, 1001, .inl (aI gs))), (a6, .inl (g.2.2, 1001, .inl (aI gc)))] (S := (Int → Int) × (Int → Int) × (Int → Int)) (fun z _ => z = jL (cm (covL R) wx (wx + wd) wy (wy + hg))) (fun u => [(o, .inr (1, [.ref a0, .ref a1, .ref a2, .ref a3, .ref a4, .ref a5, .ref a6, .int (jI sz), .int (jI wx), .int (jI wy), .int (jI wd), .int (jI hg)])), (a0, .inl (g.1, n, .inl (aI gx))), (a1, .inl (g.1, n, .inl (aI gy))), (a2, .inl (g.1, n, .inl (aI gu))), (a3, .inl (g.1, n, .inl (aI gv))), (a4, .inl (g.1, n, .inl (aI u.1))), (a5, .inl (g.1, 1001, .inl (aI u.2.1))), (a6, .inl (g.2.2, 1001, .inl (aI u.2.2)))]) := by
  refine jMl_of (cc := cX1_area) (maxL := 5) (by decide) rfl (Nat.le_of_ble_eq_true rfl) ?_
  intro p e s m args below meth c Q A hx hb hml hts hown hK hA hret ls hl hP hD
  have hS : va_S A s.heap s.heap [] := va_S.rf
  have hown : s.vm.findClass RX1 = some m.cls := hown
  have f30 := hts (.fieldLink RX1 30 "AntennaFill$Cover" "cuts" "[Z") (by decide +kernel)
  have f34 := hts (.fieldLink RX1 34 "AntennaFill$Cover" "size" "I") (by decide +kernel)
  have f47 := hts (.fieldLink RX1 47 "AntennaFill$Cover" "high" "I") (by decide +kernel)
  have inX1 : ∀ w ∈ wsX10, w ∈ wsX1_area := by decide +kernel
  have hl : lv_has ls 5 [(0, .ref o)] := hl
  have hcw := hcv.2.1
  have hcz := hcv.2.2.1
  have hcr := hcv.2.2.2.1
  have hco := hcv.1
  refine lv_aload_n hx hb dX1_area_0 rfl (lv_at hl 0 rfl) ?_
  refine va_get (D := D) (ci := 1) (v := .int (jI sz)) (C := RX1) (T := TX1) (N := 12) hx hb hts inX1 hown hK hP 0 rfl rfl 7 (by decide) f34 (fun _ h9 => h9) rfl dX1_area_1 ?_
  refine jv_if_ne (tgt := 9) hx hb ⟨by omega, by omega⟩ dX1_area_4 (by decide) (fun c4 => ?_) (fun c4 => ?_)
  · skip
    refine lv_aload_n hx hb dX1_area_9 rfl (lv_at hl 0 rfl) ?_
    refine jc_Vv (As := []) (rest := []) (wq := []) ⟨hx, hb, hml, hown, hts⟩ (tX1_sortByLeft l D g o a0 a1 a2 a3 a4 a5 a6 n gx gy gu gv gb gs gc sz wx wy wd hg R (hn) (hcv)) (cwV 0 hts gX1_area_X1_sortByLeft rfl rfl rfl (by decide +kernel) ⟨Nat.le_of_ble_eq_true rfl, Nat.le_of_ble_eq_true rfl⟩) hK hP hD hS hA [0, 1, 2, 3, 4, 5, 6, 7] [] rfl rfl (by decide) (by decide) (by decide) (va_recv hK hP (ci := 1) (q0 := 0) rfl rfl) rfl rfl hl.1 (Nat.le_of_ble_eq_true rfl) dX1_area_10 ⟨Nat.le_refl 0, Nat.le_refl 0⟩ (fun u H locs hu hP hD hS => ?_)
    obtain ⟨gb', gs'⟩ := u
    have hu : srt gx sz gb' := hu
    have hsr := hu
    have hP : va_P D jcl [(o, .inr (1, [.ref a0, .ref a1, .ref a2, .ref a3, .ref a4, .ref a5, .ref a6, .int (jI sz), .int (jI wx), .int (jI wy), .int (jI wd), .int (jI hg)])), (a0, .inl (g.1, n, .inl (aI gx))), (a1, .inl (g.1, n, .inl (aI gy))), (a2, .inl (g.1, n, .inl (aI gu))), (a3, .inl (g.1, n, .inl (aI gv))), (a4, .inl (g.1, n, .inl (aI gb'))), (a5, .inl (g.1, 1001, .inl (aI gs'))), (a6, .inl (g.2.2, 1001, .inl (aI gc)))] H := hP
    have hD : va_D A [(o, .inr (1, [.ref a0, .ref a1, .ref a2, .ref a3, .ref a4, .ref a5, .ref a6, .int (jI sz), .int (jI wx), .int (jI wy), .int (jI wd), .int (jI hg)])), (a0, .inl (g.1, n, .inl (aI gx))), (a1, .inl (g.1, n, .inl (aI gy))), (a2, .inl (g.1, n, .inl (aI gu))), (a3, .inl (g.1, n, .inl (aI gv))), (a4, .inl (g.1, n, .inl (aI gb'))), (a5, .inl (g.1, 1001, .inl (aI gs'))), (a6, .inl (g.2.2, 1001, .inl (aI gc)))] := hD
    refine lv_aload_n hx hb dX1_area_13 rfl (lv_at hl 0 rfl) ?_
    refine jc_Vv (As := []) (rest := []) (wq := []) ⟨hx, hb, hml, hown, hts⟩ (tX1_markCuts l D g o a0 a1 a2 a3 a4 a5 a6 n gx gy gu gv gb' gs' gc sz wx wy wd hg R (hn) (hcv)) (cwV 0 hts gX1_area_X1_markCuts rfl rfl rfl (by decide +kernel) ⟨Nat.le_of_ble_eq_true rfl, Nat.le_of_ble_eq_true rfl⟩) hK hP hD hS hA [0, 1, 2, 3, 4, 5, 6, 7] [] rfl rfl (by decide) (by decide) (by decide) (va_recv hK hP (ci := 1) (q0 := 0) rfl rfl) rfl rfl hl.1 (Nat.le_of_ble_eq_true rfl) dX1_area_14 ⟨Nat.le_refl 0, Nat.le_refl 0⟩ (fun u H locs hu hP hD hS => ?_)
    obtain ⟨gc', rfl⟩ : ∃ z9, z9 = u := ⟨_, rfl⟩
    have hu : cts gy gv gc' sz hg := hu
    have hct := hu
    have hP : va_P D jcl [(o, .inr (1, [.ref a0, .ref a1, .ref a2, .ref a3, .ref a4, .ref a5, .ref a6, .int (jI sz), .int (jI wx), .int (jI wy), .int (jI wd), .int (jI hg)])), (a0, .inl (g.1, n, .inl (aI gx))), (a1, .inl (g.1, n, .inl (aI gy))), (a2, .inl (g.1, n, .inl (aI gu))), (a3, .inl (g.1, n, .inl (aI gv))), (a4, .inl (g.1, n, .inl (aI gb'))), (a5, .inl (g.1, 1001, .inl (aI gs'))), (a6, .inl (g.2.2, 1001, .inl (aI gc')))] H := hP
    have hD : va_D A [(o, .inr (1, [.ref a0, .ref a1, .ref a2, .ref a3, .ref a4, .ref a5, .ref a6, .int (jI sz), .int (jI wx), .int (jI wy), .int (jI wd), .int (jI hg)])), (a0, .inl (g.1, n, .inl (aI gx))), (a1, .inl (g.1, n, .inl (aI gy))), (a2, .inl (g.1, n, .inl (aI gu))), (a3, .inl (g.1, n, .inl (aI gv))), (a4, .inl (g.1, n, .inl (aI gb'))), (a5, .inl (g.1, 1001, .inl (aI gs'))), (a6, .inl (g.2.2, 1001, .inl (aI gc')))] := hD
    have L24 : ∀ (fuel : Nat) (y9 : Int) (from9 : Int) (sum9 : Int), (1 ≤ y9 ∧ y9 ≤ hg + 1) → (slb gx gy gu gv gc' sz wx wy wd hg R y9 from9 sum9) → (hg + 2 - y9 < (fuel : Int)) → ∀ (H : Heap) (locs : List Loc) (ls : Array Slot), va_P D jcl [(o, .inr (1, [.ref a0, .ref a1, .ref a2, .ref a3, .ref a4, .ref a5, .ref a6, .int (jI sz), .int (jI wx), .int (jI wy), .int (jI wd), .int (jI hg)])), (a0, .inl (g.1, n, .inl (aI gx))), (a1, .inl (g.1, n, .inl (aI gy))), (a2, .inl (g.1, n, .inl (aI gu))), (a3, .inl (g.1, n, .inl (aI gv))), (a4, .inl (g.1, n, .inl (aI gb'))), (a5, .inl (g.1, 1001, .inl (aI gs'))), (a6, .inl (g.2.2, 1001, .inl (aI gc')))] H → va_D A [(o, .inr (1, [.ref a0, .ref a1, .ref a2, .ref a3, .ref a4, .ref a5, .ref a6, .int (jI sz), .int (jI wx), .int (jI wy), .int (jI wd), .int (jI hg)])), (a0, .inl (g.1, n, .inl (aI gx))), (a1, .inl (g.1, n, .inl (aI gy))), (a2, .inl (g.1, n, .inl (aI gu))), (a3, .inl (g.1, n, .inl (aI gv))), (a4, .inl (g.1, n, .inl (aI gb'))), (a5, .inl (g.1, 1001, .inl (aI gs'))), (a6, .inl (g.2.2, 1001, .inl (aI gc')))] → va_S A s.heap H locs → lv_has ls 5 [(0, .ref o), (1, .long (jL sum9)), (3, .int (jI from9)), (4, .int (jI y9))] → W p l e (jR 2 52) s m args below meth c H locs 0 0 Q (F0 m 24 ls []) := by
      intro fuel
      induction fuel with
      | zero =>
        intro y9 from9 sum9 hy9 hs hfu
        exfalso; omega
      | succ fuel ihL24 =>
        intro y9 from9 sum9 hy9 hs hfu H locs ls hP hD hS hl
        have hs1 := hs
        unfold slb at hs1
        have hsb := slb_bd hs hcv
        refine lv_iload hx hb dX1_area_24 (lv_at hl 3 rfl) ?_
        refine lv_aload_n hx hb dX1_area_26 rfl (lv_at hl 0 rfl) ?_
        refine va_get (D := D) (ci := 1) (v := .int (jI hg)) (C := RX1) (T := TX1) (N := 12) hx hb hts inX1 hown hK hP 0 rfl rfl 11 (by decide) f47 (fun _ h9 => h9) rfl dX1_area_27 ?_
        refine jv_icmp_gt (tgt := 67) hx hb ⟨by omega, by omega⟩ ⟨by omega, by omega⟩ dX1_area_30 (by decide) (fun c30 => ?_) (fun c30 => ?_)
        · skip
          refine lv_lload_n hx hb dX1_area_67 rfl (lv_at hl 1 rfl) ?_
          exact hret (jL sum9) (gb', gs', gc') _ _ _ _ (congrArg jL (slb_e hs hcv hct (by omega))) (hP.sub [0, 1, 2, 3, 4, 5, 6, 7] rfl) (hD.sub [0, 1, 2, 3, 4, 5, 6, 7] (by decide) rfl) hS dX1_area_68
        · skip
          have hcy := (hct y9 (by omega) (by omega)).1
          refine lv_aload_n hx hb dX1_area_33 rfl (lv_at hl 0 rfl) ?_
          refine va_get (D := D) (ci := 1) (v := .ref a6) (C := RX1) (T := TX1) (N := 12) hx hb hts inX1 hown hK hP 0 rfl rfl 6 (by decide) f30 (fun _ h9 => h9) rfl dX1_area_34 ?_
          refine lv_iload hx hb dX1_area_37 (lv_at hl 3 rfl) ?_
          refine jv_zald hx hb hK hP 7 2 rfl rfl (i := y9) ⟨by omega, by omega⟩ (Nat.le_of_ble_eq_true rfl) dX1_area_39 ?_
          refine jv_if_eq (tgt := 61) hx hb ⟨by omega, by omega⟩ dX1_area_40 (by decide) (fun c40 => ?_) (fun c40 => ?_)
          · skip
            refine jv_iinc (lv2 := [(4, .int (jI (y9 + 1))), (0, .ref o), (1, .long (jL sum9)), (3, .int (jI from9))]) hx hb dX1_area_61 hl (k := 3) rfl (by decide) rfl (fun ls hl => ?_)
            refine lv_goto (tgt := 24) hx hb dX1_area_64 (by decide) ?_
            exact ihL24 (y9 + 1) from9 sum9 (by omega) (by
              first
              | exact slb_n hs (by omega) c40
              | (rw [esm2, hz9]; exact slb_s hs hcv hct (by omega))) (by omega) _ _ _ (hP.sub [0, 1, 2, 3, 4, 5, 6, 7] rfl) (hD.sub [0, 1, 2, 3, 4, 5, 6, 7] (by decide) rfl) hS (lv_sub hl [1, 2, 3, 0] rfl)
          · skip
            refine lv_lload_n hx hb dX1_area_43 rfl (lv_at hl 1 rfl) ?_
            refine lv_iload hx hb dX1_area_44 (lv_at hl 3 rfl) ?_
            refine lv_iload_n hx hb dX1_area_46 rfl (lv_at hl 2 rfl) ?_
            refine jv_isub hx hb dX1_area_47 ?_
            refine jv_i2l hx hb ⟨by omega, by omega⟩ dX1_area_48 ?_
            refine lv_aload_n hx hb dX1_area_49 rfl (lv_at hl 0 rfl) ?_
            refine lv_iload_n hx hb dX1_area_50 rfl (lv_at hl 2 rfl) ?_
            refine jc_Vi (As := [.int (jI from9)]) (rest := [.long (jL (y9 - from9)), .long (jL sum9)]) (wq := []) ⟨hx, hb, hml, hown, hts⟩ (tX1_lengthInRow l D g o a0 a1 a2 a3 a4 a5 a6 n gx gy gu gv gb' gs' gc' sz wx wy wd hg R from9 (hn) (⟨hs1.2.1.1, by omega⟩) (hsr) (hcv)) (cwV 1 hts gX1_area_X1_lengthInRow rfl rfl rfl (by decide +kernel) ⟨Nat.le_of_ble_eq_true rfl, Nat.le_of_ble_eq_true rfl⟩) hK hP hD hS hA [0, 1, 2, 3, 4, 5, 6, 7] [] rfl rfl (by decide) (by decide) (by decide) (va_recv hK hP (ci := 1) (q0 := 0) rfl rfl) rfl rfl hl.1 (Nat.le_of_ble_eq_true rfl) dX1_area_51 ⟨Nat.le_refl 0, Nat.le_refl 0⟩ (fun z9 u H locs hu hP hD hS => ?_)
            have hu : z9 = cn (fun x => covL R (x + wx) (from9 + wy)) 0 wd := hu
            have hz9 := hu
            have hP : va_P D jcl [(o, .inr (1, [.ref a0, .ref a1, .ref a2, .ref a3, .ref a4, .ref a5, .ref a6, .int (jI sz), .int (jI wx), .int (jI wy), .int (jI wd), .int (jI hg)])), (a0, .inl (g.1, n, .inl (aI gx))), (a1, .inl (g.1, n, .inl (aI gy))), (a2, .inl (g.1, n, .inl (aI gu))), (a3, .inl (g.1, n, .inl (aI gv))), (a4, .inl (g.1, n, .inl (aI gb'))), (a5, .inl (g.1, 1001, .inl (aI gs'))), (a6, .inl (g.2.2, 1001, .inl (aI gc')))] H := hP
            have hD : va_D A [(o, .inr (1, [.ref a0, .ref a1, .ref a2, .ref a3, .ref a4, .ref a5, .ref a6, .int (jI sz), .int (jI wx), .int (jI wy), .int (jI wd), .int (jI hg)])), (a0, .inl (g.1, n, .inl (aI gx))), (a1, .inl (g.1, n, .inl (aI gy))), (a2, .inl (g.1, n, .inl (aI gu))), (a3, .inl (g.1, n, .inl (aI gv))), (a4, .inl (g.1, n, .inl (aI gb'))), (a5, .inl (g.1, 1001, .inl (aI gs'))), (a6, .inl (g.2.2, 1001, .inl (aI gc')))] := hD
            have hz9b := cn_bd (P := fun x => covL R (x + wx) (from9 + wy)) hcw.1
            rw [← hz9] at hz9b
            refine jv_i2l hx hb ⟨by omega, by omega⟩ dX1_area_54 ?_
            refine jv_lmul hx hb dX1_area_55 ?_
            refine jv_ladd hx hb dX1_area_56 ?_
            refine jv_nmL (fun sm2 esm2 => ?_)
            refine lv_lstore_n (lv' := [(1, .long (jL sm2)), (0, .ref o), (3, .int (jI from9)), (4, .int (jI y9))]) hx hb dX1_area_57 rfl hl (by decide) rfl (fun ls hl => ?_)
            refine lv_iload hx hb dX1_area_58 (lv_at hl 3 rfl) ?_
            refine lv_istore_n (lv' := [(3, .int (jI y9)), (1, .long (jL sm2)), (0, .ref o), (4, .int (jI y9))]) hx hb dX1_area_60 rfl hl (by decide) rfl (fun ls hl => ?_)
            refine jv_iinc (lv2 := [(4, .int (jI (y9 + 1))), (3, .int (jI y9)), (1, .long (jL sm2)), (0, .ref o)]) hx hb dX1_area_61 hl (k := 3) rfl (by decide) rfl (fun ls hl => ?_)
            refine lv_goto (tgt := 24) hx hb dX1_area_64 (by decide) ?_
            exact ihL24 (y9 + 1) y9 sm2 (by omega) (by
              first
              | exact slb_n hs (by omega) c40
              | (rw [esm2, hz9]; exact slb_s hs hcv hct (by omega))) (by omega) _ _ _ (hP.sub [0, 1, 2, 3, 4, 5, 6, 7] rfl) (hD.sub [0, 1, 2, 3, 4, 5, 6, 7] (by decide) rfl) hS (lv_sub hl [3, 2, 1, 0] rfl)
    refine jv_lconst0 hx hb dX1_area_17 ?_
    refine lv_lstore_n (lv' := [(1, .long (jL 0)), (0, .ref o)]) hx hb dX1_area_18 rfl hl (by decide) rfl (fun ls hl => ?_)
    refine jv_iconst hx hb dX1_area_19 ?_
    refine lv_istore_n (lv' := [(3, .int (jI 0)), (1, .long (jL 0)), (0, .ref o)]) hx hb dX1_area_20 rfl hl (by decide) rfl (fun ls hl => ?_)
    refine jv_iconst hx hb dX1_area_21 ?_
    refine lv_istore (lv' := [(4, .int (jI 1)), (3, .int (jI 0)), (1, .long (jL 0)), (0, .ref o)]) hx hb dX1_area_22 hl (by decide) rfl (fun ls hl => ?_)
    exact L24 ((hg + 2 - 1).toNat + 1) 1 0 0 (by omega) (slb_0 hcw.2.2.1) (by omega) _ _ _ (hP.sub [0, 1, 2, 3, 4, 5, 6, 7] rfl) (hD.sub [0, 1, 2, 3, 4, 5, 6, 7] (by decide) rfl) hS (lv_sub hl [3, 2, 1, 0] rfl)
  · skip
    refine jv_lconst0 hx hb dX1_area_7 ?_
    exact hret (jL 0) (gb, gs, gc) _ _ _ _ (by subst c4; exact congrArg jL (cm_no fun x y q1 q2 q3 q4 => by
      have := hcv.2.2.2.2 (x - wx) (y - wy) (by omega) (by omega) (by omega) (by omega)
      rw [show x - wx + wx = x by omega, show y - wy + wy = y by omega, an_0 (Int.le_refl 0)] at this
      exact this).symm) (hP.sub [0, 1, 2, 3, 4, 5, 6, 7] rfl) (hD.sub [0, 1, 2, 3, 4, 5, 6, 7] (by decide) rfl) hS dX1_area_8
