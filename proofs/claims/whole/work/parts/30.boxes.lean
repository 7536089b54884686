set_option maxHeartbeats 4000000 in
set_option maxRecDepth 100000 in
/-- Boxes.put: a rectangle more, where there is room -/
theorem tX0_put (l : Launch) (D : va_G) (g : ClassId × ClassId × ClassId) (o : Nat) (a0 : Nat) (a1 : Nat) (a2 : Nat) (a3 : Nat) (a4 : Nat) (a5 : Nat) (n : Nat) (fn : Int → Int) (fl : Int → Int) (fx : Int → Int) (fy : Int → Int) (fu : Int → Int) (fv : Int → Int) (sz : Int) (z0 : Int) (z1 : Int) (z2 : Int) (z3 : Int) (z4 : Int) (z5 : Int) (hn : n < 2147483648) (h0 : 0 ≤ sz ∧ sz < (n : Int)) : jMv l D g yX0_put wsX0_put 1 21 [.ref o, .int (jI z0), .int (jI z1), .int (jI z2), .int (jI z3), .int (jI z4), .int (jI z5)] [(o, .inr (0, [.ref a0, .ref a1, .ref a2, .ref a3, .ref a4, .ref a5, .int (jI sz)])), (a0, .inl (g.1, n, .inl (aI fn))), (a1, .inl (g.1, n, .inl (aI fl))), (a2, .inl (g.1, n, .inl (aI fx))), (a3, .inl (g.1, n, .inl (aI fy))), (a4, .inl (g.1, n, .inl (aI fu))), (a5, .inl (g.1, n, .inl (aI fv)))] (S := Unit) (fun _ => True) (fun _ => [(o, .inr (0, [.ref a0, .ref a1, .ref a2, .ref a3, .ref a4, .ref a5, .int (jI (sz + 1))])), (a0, .inl (g.1, n, .inl (aI (upI fn sz z0)))), (a1, .inl (g.1, n, .inl (aI (upI fl sz z1)))), (a2, .inl (g.1, n, .inl (aI (upI fx sz z2)))), (a3, .inl (g.1, n, .inl (aI (upI fy sz z3)))), (a4, .inl (g.1, n, .inl (aI (upI fu sz z4)))), (a5, .inl (g.1, n, .inl (aI (upI fv sz z5))))]) := by
  refine jMv_of (cc := cX0_put) (maxL := 7) (by decide) rfl (Nat.le_of_ble_eq_true rfl) ?_
  intro p e s m args below meth c Q A hx hb hml hts hown hK hA hret ls hl hP hD
  have hS : va_S A s.heap s.heap [] := va_S.rf
  have hown : s.vm.findClass RX0 = some m.cls := hown
  have f9 := hts (.fieldLink RX0 9 "AntennaFill$Boxes" "net" "[I") (by decide +kernel)
  have f15 := hts (.fieldLink RX0 15 "AntennaFill$Boxes" "layer" "[I") (by decide +kernel)
  have f18 := hts (.fieldLink RX0 18 "AntennaFill$Boxes" "x0" "[I") (by decide +kernel)
  have f21 := hts (.fieldLink RX0 21 "AntennaFill$Boxes" "y0" "[I") (by decide +kernel)
  have f24 := hts (.fieldLink RX0 24 "AntennaFill$Boxes" "x1" "[I") (by decide +kernel)
  have f27 := hts (.fieldLink RX0 27 "AntennaFill$Boxes" "y1" "[I") (by decide +kernel)
  have f30 := hts (.fieldLink RX0 30 "AntennaFill$Boxes" "size" "I") (by decide +kernel)
  have inX0 : ∀ w ∈ wsX00, w ∈ wsX0_put := by decide +kernel
  have hl : lv_has ls 7 [(0, .ref o), (1, .int (jI z0)), (2, .int (jI z1)), (3, .int (jI z2)), (4, .int (jI z3)), (5, .int (jI z4)), (6, .int (jI z5))] := hl
  refine lv_aload_n hx hb dX0_put_0 rfl (lv_at hl 0 rfl) ?_
  refine va_get (D := D) (ci := 0) (v := .int (jI sz)) (C := RX0) (T := TX0) (N := 7) hx hb hts inX0 hown hK hP 0 rfl rfl 6 (by decide) f30 (fun _ h9 => h9) rfl dX0_put_1 ?_
  refine lv_aload_n hx hb dX0_put_4 rfl (lv_at hl 0 rfl) ?_
  refine va_get (D := D) (ci := 0) (v := .ref a0) (C := RX0) (T := TX0) (N := 7) hx hb hts inX0 hown hK hP 0 rfl rfl 0 (by decide) f9 (fun _ h9 => h9) rfl dX0_put_5 ?_
  refine jv_alen hx hb hK hP 1 0 rfl rfl dX0_put_8 ?_
  refine jv_top (b := (n : Int)) (by first | rfl | omega) ?_
  refine jv_icmp_ge (tgt := 85) hx hb ⟨by omega, by omega⟩ ⟨by omega, by omega⟩ dX0_put_9 (by decide) (fun c9 => ?_) (fun c9 => ?_)
  · exfalso; omega
  · skip
    refine lv_aload_n hx hb dX0_put_12 rfl (lv_at hl 0 rfl) ?_
    refine va_get (D := D) (ci := 0) (v := .ref a0) (C := RX0) (T := TX0) (N := 7) hx hb hts inX0 hown hK hP 0 rfl rfl 0 (by decide) f9 (fun _ h9 => h9) rfl dX0_put_13 ?_
    refine lv_aload_n hx hb dX0_put_16 rfl (lv_at hl 0 rfl) ?_
    refine va_get (D := D) (ci := 0) (v := .int (jI sz)) (C := RX0) (T := TX0) (N := 7) hx hb hts inX0 hown hK hP 0 rfl rfl 6 (by decide) f30 (fun _ h9 => h9) rfl dX0_put_17 ?_
    refine lv_iload_n hx hb dX0_put_20 rfl (lv_at hl 1 rfl) ?_
    refine jv_iast hx hb hK hP hD hS 1 0 rfl rfl (i := sz) (x := z0) ⟨by omega, by omega⟩ hn dX0_put_21 (fun H locs hP hD hS => ?_)
    have hP : va_P D jcl [(o, .inr (0, [.ref a0, .ref a1, .ref a2, .ref a3, .ref a4, .ref a5, .int (jI sz)])), (a0, .inl (g.1, n, .inl (aI (upI fn sz z0)))), (a1, .inl (g.1, n, .inl (aI fl))), (a2, .inl (g.1, n, .inl (aI fx))), (a3, .inl (g.1, n, .inl (aI fy))), (a4, .inl (g.1, n, .inl (aI fu))), (a5, .inl (g.1, n, .inl (aI fv)))] H := hP
    have hD : va_D A [(o, .inr (0, [.ref a0, .ref a1, .ref a2, .ref a3, .ref a4, .ref a5, .int (jI sz)])), (a0, .inl (g.1, n, .inl (aI (upI fn sz z0)))), (a1, .inl (g.1, n, .inl (aI fl))), (a2, .inl (g.1, n, .inl (aI fx))), (a3, .inl (g.1, n, .inl (aI fy))), (a4, .inl (g.1, n, .inl (aI fu))), (a5, .inl (g.1, n, .inl (aI fv)))] := hD
    refine lv_aload_n hx hb dX0_put_22 rfl (lv_at hl 0 rfl) ?_
    refine va_get (D := D) (ci := 0) (v := .ref a1) (C := RX0) (T := TX0) (N := 7) hx hb hts inX0 hown hK hP 0 rfl rfl 1 (by decide) f15 (fun _ h9 => h9) rfl dX0_put_23 ?_
    refine lv_aload_n hx hb dX0_put_26 rfl (lv_at hl 0 rfl) ?_
    refine va_get (D := D) (ci := 0) (v := .int (jI sz)) (C := RX0) (T := TX0) (N := 7) hx hb hts inX0 hown hK hP 0 rfl rfl 6 (by decide) f30 (fun _ h9 => h9) rfl dX0_put_27 ?_
    refine lv_iload_n hx hb dX0_put_30 rfl (lv_at hl 2 rfl) ?_
    refine jv_iast hx hb hK hP hD hS 2 0 rfl rfl (i := sz) (x := z1) ⟨by omega, by omega⟩ hn dX0_put_31 (fun H locs hP hD hS => ?_)
    have hP : va_P D jcl [(o, .inr (0, [.ref a0, .ref a1, .ref a2, .ref a3, .ref a4, .ref a5, .int (jI sz)])), (a0, .inl (g.1, n, .inl (aI (upI fn sz z0)))), (a1, .inl (g.1, n, .inl (aI (upI fl sz z1)))), (a2, .inl (g.1, n, .inl (aI fx))), (a3, .inl (g.1, n, .inl (aI fy))), (a4, .inl (g.1, n, .inl (aI fu))), (a5, .inl (g.1, n, .inl (aI fv)))] H := hP
    have hD : va_D A [(o, .inr (0, [.ref a0, .ref a1, .ref a2, .ref a3, .ref a4, .ref a5, .int (jI sz)])), (a0, .inl (g.1, n, .inl (aI (upI fn sz z0)))), (a1, .inl (g.1, n, .inl (aI (upI fl sz z1)))), (a2, .inl (g.1, n, .inl (aI fx))), (a3, .inl (g.1, n, .inl (aI fy))), (a4, .inl (g.1, n, .inl (aI fu))), (a5, .inl (g.1, n, .inl (aI fv)))] := hD
    refine lv_aload_n hx hb dX0_put_32 rfl (lv_at hl 0 rfl) ?_
    refine va_get (D := D) (ci := 0) (v := .ref a2) (C := RX0) (T := TX0) (N := 7) hx hb hts inX0 hown hK hP 0 rfl rfl 2 (by decide) f18 (fun _ h9 => h9) rfl dX0_put_33 ?_
    refine lv_aload_n hx hb dX0_put_36 rfl (lv_at hl 0 rfl) ?_
    refine va_get (D := D) (ci := 0) (v := .int (jI sz)) (C := RX0) (T := TX0) (N := 7) hx hb hts inX0 hown hK hP 0 rfl rfl 6 (by decide) f30 (fun _ h9 => h9) rfl dX0_put_37 ?_
    refine lv_iload_n hx hb dX0_put_40 rfl (lv_at hl 3 rfl) ?_
    refine jv_iast hx hb hK hP hD hS 3 0 rfl rfl (i := sz) (x := z2) ⟨by omega, by omega⟩ hn dX0_put_41 (fun H locs hP hD hS => ?_)
    have hP : va_P D jcl [(o, .inr (0, [.ref a0, .ref a1, .ref a2, .ref a3, .ref a4, .ref a5, .int (jI sz)])), (a0, .inl (g.1, n, .inl (aI (upI fn sz z0)))), (a1, .inl (g.1, n, .inl (aI (upI fl sz z1)))), (a2, .inl (g.1, n, .inl (aI (upI fx sz z2)))), (a3, .inl (g.1, n, .inl (aI fy))), (a4, .inl (g.1, n, .inl (aI fu))), (a5, .inl (g.1, n, .inl (aI fv)))] H := hP
    have hD : va_D A [(o, .inr (0, [.ref a0, .ref a1, .ref a2, .ref a3, .ref a4, .ref a5, .int (jI sz)])), (a0, .inl (g.1, n, .inl (aI (upI fn sz z0)))), (a1, .inl (g.1, n, .inl (aI (upI fl sz z1)))), (a2, .inl (g.1, n, .inl (aI (upI fx sz z2)))), (a3, .inl (g.1, n, .inl (aI fy))), (a4, .inl (g.1, n, .inl (aI fu))), (a5, .inl (g.1, n, .inl (aI fv)))] := hD
    refine lv_aload_n hx hb dX0_put_42 rfl (lv_at hl 0 rfl) ?_
    refine va_get (D := D) (ci := 0) (v := .ref a3) (C := RX0) (T := TX0) (N := 7) hx hb hts inX0 hown hK hP 0 rfl rfl 3 (by decide) f21 (fun _ h9 => h9) rfl dX0_put_43 ?_
    refine lv_aload_n hx hb dX0_put_46 rfl (lv_at hl 0 rfl) ?_
    refine va_get (D := D) (ci := 0) (v := .int (jI sz)) (C := RX0) (T := TX0) (N := 7) hx hb hts inX0 hown hK hP 0 rfl rfl 6 (by decide) f30 (fun _ h9 => h9) rfl dX0_put_47 ?_
    refine lv_iload hx hb dX0_put_50 (lv_at hl 4 rfl) ?_
    refine jv_iast hx hb hK hP hD hS 4 0 rfl rfl (i := sz) (x := z3) ⟨by omega, by omega⟩ hn dX0_put_52 (fun H locs hP hD hS => ?_)
    have hP : va_P D jcl [(o, .inr (0, [.ref a0, .ref a1, .ref a2, .ref a3, .ref a4, .ref a5, .int (jI sz)])), (a0, .inl (g.1, n, .inl (aI (upI fn sz z0)))), (a1, .inl (g.1, n, .inl (aI (upI fl sz z1)))), (a2, .inl (g.1, n, .inl (aI (upI fx sz z2)))), (a3, .inl (g.1, n, .inl (aI (upI fy sz z3)))), (a4, .inl (g.1, n, .inl (aI fu))), (a5, .inl (g.1, n, .inl (aI fv)))] H := hP
    have hD : va_D A [(o, .inr (0, [.ref a0, .ref a1, .ref a2, .ref a3, .ref a4, .ref a5, .int (jI sz)])), (a0, .inl (g.1, n, .inl (aI (upI fn sz z0)))), (a1, .inl (g.1, n, .inl (aI (upI fl sz z1)))), (a2, .inl (g.1, n, .inl (aI (upI fx sz z2)))), (a3, .inl (g.1, n, .inl (aI (upI fy sz z3)))), (a4, .inl (g.1, n, .inl (aI fu))), (a5, .inl (g.1, n, .inl (aI fv)))] := hD
    refine lv_aload_n hx hb dX0_put_53 rfl (lv_at hl 0 rfl) ?_
    refine va_get (D := D) (ci := 0) (v := .ref a4) (C := RX0) (T := TX0) (N := 7) hx hb hts inX0 hown hK hP 0 rfl rfl 4 (by decide) f24 (fun _ h9 => h9) rfl dX0_put_54 ?_
    refine lv_aload_n hx hb dX0_put_57 rfl (lv_at hl 0 rfl) ?_
    refine va_get (D := D) (ci := 0) (v := .int (jI sz)) (C := RX0) (T := TX0) (N := 7) hx hb hts inX0 hown hK hP 0 rfl rfl 6 (by decide) f30 (fun _ h9 => h9) rfl dX0_put_58 ?_
    refine lv_iload hx hb dX0_put_61 (lv_at hl 5 rfl) ?_
    refine jv_iast hx hb hK hP hD hS 5 0 rfl rfl (i := sz) (x := z4) ⟨by omega, by omega⟩ hn dX0_put_63 (fun H locs hP hD hS => ?_)
    have hP : va_P D jcl [(o, .inr (0, [.ref a0, .ref a1, .ref a2, .ref a3, .ref a4, .ref a5, .int (jI sz)])), (a0, .inl (g.1, n, .inl (aI (upI fn sz z0)))), (a1, .inl (g.1, n, .inl (aI (upI fl sz z1)))), (a2, .inl (g.1, n, .inl (aI (upI fx sz z2)))), (a3, .inl (g.1, n, .inl (aI (upI fy sz z3)))), (a4, .inl (g.1, n, .inl (aI (upI fu sz z4)))), (a5, .inl (g.1, n, .inl (aI fv)))] H := hP
    have hD : va_D A [(o, .inr (0, [.ref a0, .ref a1, .ref a2, .ref a3, .ref a4, .ref a5, .int (jI sz)])), (a0, .inl (g.1, n, .inl (aI (upI fn sz z0)))), (a1, .inl (g.1, n, .inl (aI (upI fl sz z1)))), (a2, .inl (g.1, n, .inl (aI (upI fx sz z2)))), (a3, .inl (g.1, n, .inl (aI (upI fy sz z3)))), (a4, .inl (g.1, n, .inl (aI (upI fu sz z4)))), (a5, .inl (g.1, n, .inl (aI fv)))] := hD
    refine lv_aload_n hx hb dX0_put_64 rfl (lv_at hl 0 rfl) ?_
    refine va_get (D := D) (ci := 0) (v := .ref a5) (C := RX0) (T := TX0) (N := 7) hx hb hts inX0 hown hK hP 0 rfl rfl 5 (by decide) f27 (fun _ h9 => h9) rfl dX0_put_65 ?_
    refine lv_aload_n hx hb dX0_put_68 rfl (lv_at hl 0 rfl) ?_
    refine va_get (D := D) (ci := 0) (v := .int (jI sz)) (C := RX0) (T := TX0) (N := 7) hx hb hts inX0 hown hK hP 0 rfl rfl 6 (by decide) f30 (fun _ h9 => h9) rfl dX0_put_69 ?_
    refine lv_iload hx hb dX0_put_72 (lv_at hl 6 rfl) ?_
    refine jv_iast hx hb hK hP hD hS 6 0 rfl rfl (i := sz) (x := z5) ⟨by omega, by omega⟩ hn dX0_put_74 (fun H locs hP hD hS => ?_)
    have hP : va_P D jcl [(o, .inr (0, [.ref a0, .ref a1, .ref a2, .ref a3, .ref a4, .ref a5, .int (jI sz)])), (a0, .inl (g.1, n, .inl (aI (upI fn sz z0)))), (a1, .inl (g.1, n, .inl (aI (upI fl sz z1)))), (a2, .inl (g.1, n, .inl (aI (upI fx sz z2)))), (a3, .inl (g.1, n, .inl (aI (upI fy sz z3)))), (a4, .inl (g.1, n, .inl (aI (upI fu sz z4)))), (a5, .inl (g.1, n, .inl (aI (upI fv sz z5))))] H := hP
    have hD : va_D A [(o, .inr (0, [.ref a0, .ref a1, .ref a2, .ref a3, .ref a4, .ref a5, .int (jI sz)])), (a0, .inl (g.1, n, .inl (aI (upI fn sz z0)))), (a1, .inl (g.1, n, .inl (aI (upI fl sz z1)))), (a2, .inl (g.1, n, .inl (aI (upI fx sz z2)))), (a3, .inl (g.1, n, .inl (aI (upI fy sz z3)))), (a4, .inl (g.1, n, .inl (aI (upI fu sz z4)))), (a5, .inl (g.1, n, .inl (aI (upI fv sz z5))))] := hD
    refine lv_aload_n hx hb dX0_put_75 rfl (lv_at hl 0 rfl) ?_
    refine lv_dup hx hb dX0_put_76 rfl ?_
    refine va_get (D := D) (ci := 0) (v := .int (jI sz)) (C := RX0) (T := TX0) (N := 7) hx hb hts inX0 hown hK hP 0 rfl rfl 6 (by decide) f30 (fun _ h9 => h9) rfl dX0_put_77 ?_
    refine jv_iconst hx hb dX0_put_80 ?_
    refine jv_iadd hx hb dX0_put_81 ?_
    refine va_put (D := D) (ci := 0) (v := .int (jI (sz + 1))) (ty := .int) (C := RX0) (T := TX0) (N := 7) hx hb hts inX0 tyX0 tyX0_ok nmX0 hown hK hP hD hS 0 rfl rfl 6 (by decide) f30 (fun _ h9 => h9) rfl (by decide +kernel) rfl rfl (Nat.le_of_ble_eq_true rfl) dX0_put_82 (fun H locs hP hD hS => ?_)
    have hP : va_P D jcl [(o, .inr (0, [.ref a0, .ref a1, .ref a2, .ref a3, .ref a4, .ref a5, .int (jI (sz + 1))])), (a0, .inl (g.1, n, .inl (aI (upI fn sz z0)))), (a1, .inl (g.1, n, .inl (aI (upI fl sz z1)))), (a2, .inl (g.1, n, .inl (aI (upI fx sz z2)))), (a3, .inl (g.1, n, .inl (aI (upI fy sz z3)))), (a4, .inl (g.1, n, .inl (aI (upI fu sz z4)))), (a5, .inl (g.1, n, .inl (aI (upI fv sz z5))))] H := hP
    have hD : va_D A [(o, .inr (0, [.ref a0, .ref a1, .ref a2, .ref a3, .ref a4, .ref a5, .int (jI (sz + 1))])), (a0, .inl (g.1, n, .inl (aI (upI fn sz z0)))), (a1, .inl (g.1, n, .inl (aI (upI fl sz z1)))), (a2, .inl (g.1, n, .inl (aI (upI fx sz z2)))), (a3, .inl (g.1, n, .inl (aI (upI fy sz z3)))), (a4, .inl (g.1, n, .inl (aI (upI fu sz z4)))), (a5, .inl (g.1, n, .inl (aI (upI fv sz z5))))] := hD
    exact hret  () _ _ _ _ (trivial) (hP.sub [0, 1, 2, 3, 4, 5, 6] rfl) (hD.sub [0, 1, 2, 3, 4, 5, 6] (by decide) rfl) hS dX0_put_85

set_option maxHeartbeats 4000000 in
set_option maxRecDepth 100000 in
/-- Boxes.sizeOnLayer -/
theorem tX0_sizeOnLayer (l : Launch) (D : va_G) (g : ClassId × ClassId × ClassId) (o : Nat) (a0 : Nat) (a1 : Nat) (a2 : Nat) (a3 : Nat) (a4 : Nat) (a5 : Nat) (n : Nat) (fn : Int → Int) (fl : Int → Int) (fx : Int → Int) (fy : Int → Int) (fu : Int → Int) (fv : Int → Int) (sz : Int) (L : List jQ) (w : Int) (hn : n < 2147483648) (hw : rI w) (hz : 0 ≤ sz ∧ sz ≤ (n : Int)) (hB : bx fn fl fx fy fu fv sz L) : jMi l D g yX0_sizeOnLayer wsX0_sizeOnLayer 1 21 [.ref o, .int (jI w)] [(o, .inr (0, [.ref a0, .ref a1, .ref a2, .ref a3, .ref a4, .ref a5, .int (jI sz)])), (a0, .inl (g.1, n, .inl (aI fn))), (a1, .inl (g.1, n, .inl (aI fl))), (a2, .inl (g.1, n, .inl (aI fx))), (a3, .inl (g.1, n, .inl (aI fy))), (a4, .inl (g.1, n, .inl (aI fu))), (a5, .inl (g.1, n, .inl (aI fv)))] (S := Unit) (fun z _ => z = ((L.filter (onL w)).length : Int)) (fun _ => [(o, .inr (0, [.ref a0, .ref a1, .ref a2, .ref a3, .ref a4, .ref a5, .int (jI sz)])), (a0, .inl (g.1, n, .inl (aI fn))), (a1, .inl (g.1, n, .inl (aI fl))), (a2, .inl (g.1, n, .inl (aI fx))), (a3, .inl (g.1, n, .inl (aI fy))), (a4, .inl (g.1, n, .inl (aI fu))), (a5, .inl (g.1, n, .inl (aI fv)))]) := by
  refine jMi_of (cc := cX0_sizeOnLayer) (maxL := 4) (by decide) rfl (Nat.le_of_ble_eq_true rfl) ?_
  intro p e s m args below meth c Q A hx hb hml hts hown hK hA hret ls hl hP hD
  have hS : va_S A s.heap s.heap [] := va_S.rf
  have hown : s.vm.findClass RX0 = some m.cls := hown
  have f15 := hts (.fieldLink RX0 15 "AntennaFill$Boxes" "layer" "[I") (by decide +kernel)
  have f30 := hts (.fieldLink RX0 30 "AntennaFill$Boxes" "size" "I") (by decide +kernel)
  have inX0 : ∀ w ∈ wsX00, w ∈ wsX0_sizeOnLayer := by decide +kernel
  have hl : lv_has ls 4 [(0, .ref o), (1, .int (jI w))] := hl
  have L4 : ∀ (fuel : Nat) (i : Int) (cv : Int), (0 ≤ i ∧ i ≤ sz) → (cv = (((pre L i).filter (onL w)).length : Int)) → (sz - i < (fuel : Int)) → ∀ (H : Heap) (locs : List Loc) (ls : Array Slot), va_P D jcl [(o, .inr (0, [.ref a0, .ref a1, .ref a2, .ref a3, .ref a4, .ref a5, .int (jI sz)])), (a0, .inl (g.1, n, .inl (aI fn))), (a1, .inl (g.1, n, .inl (aI fl))), (a2, .inl (g.1, n, .inl (aI fx))), (a3, .inl (g.1, n, .inl (aI fy))), (a4, .inl (g.1, n, .inl (aI fu))), (a5, .inl (g.1, n, .inl (aI fv)))] H → va_D A [(o, .inr (0, [.ref a0, .ref a1, .ref a2, .ref a3, .ref a4, .ref a5, .int (jI sz)])), (a0, .inl (g.1, n, .inl (aI fn))), (a1, .inl (g.1, n, .inl (aI fl))), (a2, .inl (g.1, n, .inl (aI fx))), (a3, .inl (g.1, n, .inl (aI fy))), (a4, .inl (g.1, n, .inl (aI fu))), (a5, .inl (g.1, n, .inl (aI fv)))] → va_S A s.heap H locs → lv_has ls 4 [(0, .ref o), (1, .int (jI w)), (2, .int (jI cv)), (3, .int (jI i))] → W p l e (jR 1 21) s m args below meth c H locs 0 0 Q (F0 m 4 ls []) := by
    intro fuel
    induction fuel with
    | zero =>
      intro i cv hi hc hfu
      exfalso; omega
    | succ fuel ihL4 =>
      intro i cv hi hc hfu H locs ls hP hD hS hl
      refine lv_iload_n hx hb dX0_sizeOnLayer_4 rfl (lv_at hl 3 rfl) ?_
      refine lv_aload_n hx hb dX0_sizeOnLayer_5 rfl (lv_at hl 0 rfl) ?_
      refine va_get (D := D) (ci := 0) (v := .int (jI sz)) (C := RX0) (T := TX0) (N := 7) hx hb hts inX0 hown hK hP 0 rfl rfl 6 (by decide) f30 (fun _ h9 => h9) rfl dX0_sizeOnLayer_6 ?_
      refine jv_icmp_ge (tgt := 31) hx hb ⟨by omega, by omega⟩ ⟨by omega, by omega⟩ dX0_sizeOnLayer_9 (by decide) (fun c9 => ?_) (fun c9 => ?_)
      · skip
        refine lv_iload_n hx hb dX0_sizeOnLayer_31 rfl (lv_at hl 2 rfl) ?_
        exact hret cv () _ _ _ _ (by rw [hc, pre_all (L := L) (i := i) (by rw [← hB.1]; omega)]) (hP.sub [0, 1, 2, 3, 4, 5, 6] rfl) (hD.sub [0, 1, 2, 3, 4, 5, 6] (by decide) rfl) hS dX0_sizeOnLayer_32
      · skip
        obtain ⟨q, hq, hm, e0, e1, e2, e3, e4, e5, hok⟩ := bx_at hB (k := i) ⟨hi.1, by omega⟩
        unfold okQ at hok
        refine lv_aload_n hx hb dX0_sizeOnLayer_12 rfl (lv_at hl 0 rfl) ?_
        refine va_get (D := D) (ci := 0) (v := .ref a1) (C := RX0) (T := TX0) (N := 7) hx hb hts inX0 hown hK hP 0 rfl rfl 1 (by decide) f15 (fun _ h9 => h9) rfl dX0_sizeOnLayer_13 ?_
        refine lv_iload_n hx hb dX0_sizeOnLayer_16 rfl (lv_at hl 3 rfl) ?_
        refine jv_iald hx hb hK hP 2 0 rfl rfl (i := i) ⟨by omega, by omega⟩ hn dX0_sizeOnLayer_17 ?_
        refine lv_iload_n hx hb dX0_sizeOnLayer_18 rfl (lv_at hl 1 rfl) ?_
        refine jv_icmp_ne (tgt := 25) hx hb ⟨by omega, by omega⟩ ⟨by omega, by omega⟩ dX0_sizeOnLayer_19 (by decide) (fun c19 => ?_) (fun c19 => ?_)
        · skip
          refine jv_iinc (lv2 := [(3, .int (jI (i + 1))), (0, .ref o), (1, .int (jI w)), (2, .int (jI cv))]) hx hb dX0_sizeOnLayer_25 hl (k := 3) rfl (by decide) rfl (fun ls hl => ?_)
          refine lv_goto (tgt := 4) hx hb dX0_sizeOnLayer_28 (by decide) ?_
          exact ihL4 (i + 1) cv (by omega) (by first | (rw [flt_n _ hi.1 hq (onL_f (by omega))]; exact hc) | (rw [flt_s _ hi.1 hq (onL_t (by omega)), List.length_append, List.length_singleton]; omega)) (by omega) _ _ _ (hP.sub [0, 1, 2, 3, 4, 5, 6] rfl) (hD.sub [0, 1, 2, 3, 4, 5, 6] (by decide) rfl) hS (lv_sub hl [1, 2, 3, 0] rfl)
        · skip
          refine jv_iinc (lv2 := [(2, .int (jI (cv + 1))), (0, .ref o), (1, .int (jI w)), (3, .int (jI i))]) hx hb dX0_sizeOnLayer_22 hl (k := 2) rfl (by decide) rfl (fun ls hl => ?_)
          refine jv_iinc (lv2 := [(3, .int (jI (i + 1))), (2, .int (jI (cv + 1))), (0, .ref o), (1, .int (jI w))]) hx hb dX0_sizeOnLayer_25 hl (k := 3) rfl (by decide) rfl (fun ls hl => ?_)
          refine lv_goto (tgt := 4) hx hb dX0_sizeOnLayer_28 (by decide) ?_
          exact ihL4 (i + 1) (cv + 1) (by omega) (by first | (rw [flt_n _ hi.1 hq (onL_f (by omega))]; exact hc) | (rw [flt_s _ hi.1 hq (onL_t (by omega)), List.length_append, List.length_singleton]; omega)) (by omega) _ _ _ (hP.sub [0, 1, 2, 3, 4, 5, 6] rfl) (hD.sub [0, 1, 2, 3, 4, 5, 6] (by decide) rfl) hS (lv_sub hl [2, 3, 1, 0] rfl)
  refine jv_iconst hx hb dX0_sizeOnLayer_0 ?_
  refine lv_istore_n (lv' := [(2, .int (jI 0)), (0, .ref o), (1, .int (jI w))]) hx hb dX0_sizeOnLayer_1 rfl hl (by decide) rfl (fun ls hl => ?_)
  refine jv_iconst hx hb dX0_sizeOnLayer_2 ?_
  refine lv_istore_n (lv' := [(3, .int (jI 0)), (2, .int (jI 0)), (0, .ref o), (1, .int (jI w))]) hx hb dX0_sizeOnLayer_3 rfl hl (by decide) rfl (fun ls hl => ?_)
  exact L4 ((sz - 0).toNat + 1) 0 0 (by omega) (by rw [pre_0]; rfl) (by omega) _ _ _ (hP.sub [0, 1, 2, 3, 4, 5, 6] rfl) (hD.sub [0, 1, 2, 3, 4, 5, 6] (by decide) rfl) hS (lv_sub hl [2, 3, 1, 0] rfl)

set_option maxHeartbeats 4000000 in
set_option maxRecDepth 100000 in
/-- Boxes.indexOnLayer -/
theorem tX0_indexOnLayer (l : Launch) (D : va_G) (g : ClassId × ClassId × ClassId) (o : Nat) (a0 : Nat) (a1 : Nat) (a2 : Nat) (a3 : Nat) (a4 : Nat) (a5 : Nat) (n : Nat) (fn : Int → Int) (fl : Int → Int) (fx : Int → Int) (fy : Int → Int) (fu : Int → Int) (fv : Int → Int) (sz : Int) (L : List jQ) (w : Int) (k : Int) (hn : n < 2147483648) (hw : rI w) (hz : 0 ≤ sz ∧ sz ≤ (n : Int)) (hk : 0 ≤ k ∧ rI k) (hB : bx fn fl fx fy fu fv sz L) : jMi l D g yX0_indexOnLayer wsX0_indexOnLayer 1 21 [.ref o, .int (jI w), .int (jI k)] [(o, .inr (0, [.ref a0, .ref a1, .ref a2, .ref a3, .ref a4, .ref a5, .int (jI sz)])), (a0, .inl (g.1, n, .inl (aI fn))), (a1, .inl (g.1, n, .inl (aI fl))), (a2, .inl (g.1, n, .inl (aI fx))), (a3, .inl (g.1, n, .inl (aI fy))), (a4, .inl (g.1, n, .inl (aI fu))), (a5, .inl (g.1, n, .inl (aI fv)))] (S := Unit) (fun z _ => (z = -1 ∧ ((L.filter (onL w)).length : Int) ≤ k) ∨ (0 ≤ z ∧ z < sz ∧ ∃ q : jQ, L[z.toNat]? = some q ∧ (L.filter (onL w))[k.toNat]? = some q)) (fun _ => [(o, .inr (0, [.ref a0, .ref a1, .ref a2, .ref a3, .ref a4, .ref a5, .int (jI sz)])), (a0, .inl (g.1, n, .inl (aI fn))), (a1, .inl (g.1, n, .inl (aI fl))), (a2, .inl (g.1, n, .inl (aI fx))), (a3, .inl (g.1, n, .inl (aI fy))), (a4, .inl (g.1, n, .inl (aI fu))), (a5, .inl (g.1, n, .inl (aI fv)))]) := by
  refine jMi_of (cc := cX0_indexOnLayer) (maxL := 5) (by decide) rfl (Nat.le_of_ble_eq_true rfl) ?_
  intro p e s m args below meth c Q A hx hb hml hts hown hK hA hret ls hl hP hD
  have hS : va_S A s.heap s.heap [] := va_S.rf
  have hown : s.vm.findClass RX0 = some m.cls := hown
  have f15 := hts (.fieldLink RX0 15 "AntennaFill$Boxes" "layer" "[I") (by decide +kernel)
  have f30 := hts (.fieldLink RX0 30 "AntennaFill$Boxes" "size" "I") (by decide +kernel)
  have inX0 : ∀ w ∈ wsX00, w ∈ wsX0_indexOnLayer := by decide +kernel
  have hl : lv_has ls 5 [(0, .ref o), (1, .int (jI w)), (2, .int (jI k))] := hl
  have L5 : ∀ (fuel : Nat) (i : Int) (cv : Int), (0 ≤ i ∧ i ≤ sz) → (cv = (((pre L i).filter (onL w)).length : Int)) → (cv ≤ k) → (sz - i < (fuel : Int)) → ∀ (H : Heap) (locs : List Loc) (ls : Array Slot), va_P D jcl [(o, .inr (0, [.ref a0, .ref a1, .ref a2, .ref a3, .ref a4, .ref a5, .int (jI sz)])), (a0, .inl (g.1, n, .inl (aI fn))), (a1, .inl (g.1, n, .inl (aI fl))), (a2, .inl (g.1, n, .inl (aI fx))), (a3, .inl (g.1, n, .inl (aI fy))), (a4, .inl (g.1, n, .inl (aI fu))), (a5, .inl (g.1, n, .inl (aI fv)))] H → va_D A [(o, .inr (0, [.ref a0, .ref a1, .ref a2, .ref a3, .ref a4, .ref a5, .int (jI sz)])), (a0, .inl (g.1, n, .inl (aI fn))), (a1, .inl (g.1, n, .inl (aI fl))), (a2, .inl (g.1, n, .inl (aI fx))), (a3, .inl (g.1, n, .inl (aI fy))), (a4, .inl (g.1, n, .inl (aI fu))), (a5, .inl (g.1, n, .inl (aI fv)))] → va_S A s.heap H locs → lv_has ls 5 [(0, .ref o), (1, .int (jI w)), (2, .int (jI k)), (3, .int (jI cv)), (4, .int (jI i))] → W p l e (jR 1 21) s m args below meth c H locs 0 0 Q (F0 m 5 ls []) := by
    intro fuel
    induction fuel with
    | zero =>
      intro i cv hi hc hk2 hfu
      exfalso; omega
    | succ fuel ihL5 =>
      intro i cv hi hc hk2 hfu H locs ls hP hD hS hl
      refine lv_iload hx hb dX0_indexOnLayer_5 (lv_at hl 4 rfl) ?_
      refine lv_aload_n hx hb dX0_indexOnLayer_7 rfl (lv_at hl 0 rfl) ?_
      refine va_get (D := D) (ci := 0) (v := .int (jI sz)) (C := RX0) (T := TX0) (N := 7) hx hb hts inX0 hown hK hP 0 rfl rfl 6 (by decide) f30 (fun _ h9 => h9) rfl dX0_indexOnLayer_8 ?_
      refine jv_icmp_ge (tgt := 42) hx hb ⟨by omega, by omega⟩ ⟨by omega, by omega⟩ dX0_indexOnLayer_11 (by decide) (fun c11 => ?_) (fun c11 => ?_)
      · skip
        have hall := pre_all (L := L) (i := i) (by rw [← hB.1]; omega)
        rw [hall] at hc
        refine jv_iconst hx hb dX0_indexOnLayer_42 ?_
        exact hret (-1) () _ _ _ _ (Or.inl ⟨rfl, by omega⟩) (hP.sub [0, 1, 2, 3, 4, 5, 6] rfl) (hD.sub [0, 1, 2, 3, 4, 5, 6] (by decide) rfl) hS dX0_indexOnLayer_43
      · skip
        obtain ⟨q, hq, hm, e0, e1, e2, e3, e4, e5, hok⟩ := bx_at hB (k := i) ⟨hi.1, by omega⟩
        unfold okQ at hok
        refine lv_aload_n hx hb dX0_indexOnLayer_14 rfl (lv_at hl 0 rfl) ?_
        refine va_get (D := D) (ci := 0) (v := .ref a1) (C := RX0) (T := TX0) (N := 7) hx hb hts inX0 hown hK hP 0 rfl rfl 1 (by decide) f15 (fun _ h9 => h9) rfl dX0_indexOnLayer_15 ?_
        refine lv_iload hx hb dX0_indexOnLayer_18 (lv_at hl 4 rfl) ?_
        refine jv_iald hx hb hK hP 2 0 rfl rfl (i := i) ⟨by omega, by omega⟩ hn dX0_indexOnLayer_20 ?_
        refine lv_iload_n hx hb dX0_indexOnLayer_21 rfl (lv_at hl 1 rfl) ?_
        refine jv_icmp_ne (tgt := 36) hx hb ⟨by omega, by omega⟩ ⟨by omega, by omega⟩ dX0_indexOnLayer_22 (by decide) (fun c22 => ?_) (fun c22 => ?_)
        · skip
          refine jv_iinc (lv2 := [(4, .int (jI (i + 1))), (0, .ref o), (1, .int (jI w)), (2, .int (jI k)), (3, .int (jI cv))]) hx hb dX0_indexOnLayer_36 hl (k := 4) rfl (by decide) rfl (fun ls hl => ?_)
          refine lv_goto (tgt := 5) hx hb dX0_indexOnLayer_39 (by decide) ?_
          exact ihL5 (i + 1) cv (by omega) (by first | (rw [flt_n _ hi.1 hq (onL_f (by omega))]; exact hc) | (rw [flt_s _ hi.1 hq (onL_t (by omega)), List.length_append, List.length_singleton]; omega)) (by omega) (by omega) _ _ _ (hP.sub [0, 1, 2, 3, 4, 5, 6] rfl) (hD.sub [0, 1, 2, 3, 4, 5, 6] (by decide) rfl) hS (lv_sub hl [1, 2, 3, 4, 0] rfl)
        · skip
          refine lv_iload_n hx hb dX0_indexOnLayer_25 rfl (lv_at hl 3 rfl) ?_
          refine lv_iload_n hx hb dX0_indexOnLayer_26 rfl (lv_at hl 2 rfl) ?_
          refine jv_icmp_ne (tgt := 33) hx hb ⟨by omega, by omega⟩ ⟨by omega, by omega⟩ dX0_indexOnLayer_27 (by decide) (fun c27 => ?_) (fun c27 => ?_)
          · skip
            refine jv_iinc (lv2 := [(3, .int (jI (cv + 1))), (0, .ref o), (1, .int (jI w)), (2, .int (jI k)), (4, .int (jI i))]) hx hb dX0_indexOnLayer_33 hl (k := 3) rfl (by decide) rfl (fun ls hl => ?_)
            refine jv_iinc (lv2 := [(4, .int (jI (i + 1))), (3, .int (jI (cv + 1))), (0, .ref o), (1, .int (jI w)), (2, .int (jI k))]) hx hb dX0_indexOnLayer_36 hl (k := 4) rfl (by decide) rfl (fun ls hl => ?_)
            refine lv_goto (tgt := 5) hx hb dX0_indexOnLayer_39 (by decide) ?_
            exact ihL5 (i + 1) (cv + 1) (by omega) (by first | (rw [flt_n _ hi.1 hq (onL_f (by omega))]; exact hc) | (rw [flt_s _ hi.1 hq (onL_t (by omega)), List.length_append, List.length_singleton]; omega)) (by omega) (by omega) _ _ _ (hP.sub [0, 1, 2, 3, 4, 5, 6] rfl) (hD.sub [0, 1, 2, 3, 4, 5, 6] (by decide) rfl) hS (lv_sub hl [2, 3, 4, 1, 0] rfl)
          · skip
            refine lv_iload hx hb dX0_indexOnLayer_30 (lv_at hl 4 rfl) ?_
            exact hret i () _ _ _ _ (Or.inr ⟨hi.1, by omega, q, hq, by have := flt_at (onL w) hq (onL_t (by omega)); rw [show k.toNat = ((L.take i.toNat).filter (onL w)).length by unfold pre at hc; omega]; exact this⟩) (hP.sub [0, 1, 2, 3, 4, 5, 6] rfl) (hD.sub [0, 1, 2, 3, 4, 5, 6] (by decide) rfl) hS dX0_indexOnLayer_32
  refine jv_iconst hx hb dX0_indexOnLayer_0 ?_
  refine lv_istore_n (lv' := [(3, .int (jI 0)), (0, .ref o), (1, .int (jI w)), (2, .int (jI k))]) hx hb dX0_indexOnLayer_1 rfl hl (by decide) rfl (fun ls hl => ?_)
  refine jv_iconst hx hb dX0_indexOnLayer_2 ?_
  refine lv_istore (lv' := [(4, .int (jI 0)), (3, .int (jI 0)), (0, .ref o), (1, .int (jI w)), (2, .int (jI k))]) hx hb dX0_indexOnLayer_3 hl (by decide) rfl (fun ls hl => ?_)
  exact L5 ((sz - 0).toNat + 1) 0 0 (by omega) (by rw [pre_0]; rfl) (by omega) (by omega) _ _ _ (hP.sub [0, 1, 2, 3, 4, 5, 6] rfl) (hD.sub [0, 1, 2, 3, 4, 5, 6] (by decide) rfl) hS (lv_sub hl [2, 3, 4, 1, 0] rfl)

set_option maxHeartbeats 4000000 in
set_option maxRecDepth 100000 in
/-- Boxes.dropLayer -/
theorem tX0_dropLayer (l : Launch) (D : va_G) (g : ClassId × ClassId × ClassId) (o : Nat) (a0 : Nat) (a1 : Nat) (a2 : Nat) (a3 : Nat) (a4 : Nat) (a5 : Nat) (n : Nat) (fn : Int → Int) (fl : Int → Int) (fx : Int → Int) (fy : Int → Int) (fu : Int → Int) (fv : Int → Int) (sz : Int) (L : List jQ) (w : Int) (hn : n < 2147483648) (hw : rI w) (hz : 0 ≤ sz ∧ sz ≤ (n : Int)) (hB : bx fn fl fx fy fu fv sz L) : jMv l D g yX0_dropLayer wsX0_dropLayer 2 50 [.ref o, .int (jI w)] [(o, .inr (0, [.ref a0, .ref a1, .ref a2, .ref a3, .ref a4, .ref a5, .int (jI sz)])), (a0, .inl (g.1, n, .inl (aI fn))), (a1, .inl (g.1, n, .inl (aI fl))), (a2, .inl (g.1, n, .inl (aI fx))), (a3, .inl (g.1, n, .inl (aI fy))), (a4, .inl (g.1, n, .inl (aI fu))), (a5, .inl (g.1, n, .inl (aI fv)))] (S := (Int → Int) × (Int → Int) × (Int → Int) × (Int → Int) × (Int → Int) × (Int → Int) × Int) (fun u => bx u.1 u.2.1 u.2.2.1 u.2.2.2.1 u.2.2.2.2.1 u.2.2.2.2.2.1 u.2.2.2.2.2.2 (L.filter (offL w))) (fun u => [(o, .inr (0, [.ref a0, .ref a1, .ref a2, .ref a3, .ref a4, .ref a5, .int (jI u.2.2.2.2.2.2)])), (a0, .inl (g.1, n, .inl (aI u.1))), (a1, .inl (g.1, n, .inl (aI u.2.1))), (a2, .inl (g.1, n, .inl (aI u.2.2.1))), (a3, .inl (g.1, n, .inl (aI u.2.2.2.1))), (a4, .inl (g.1, n, .inl (aI u.2.2.2.2.1))), (a5, .inl (g.1, n, .inl (aI u.2.2.2.2.2.1)))]) := by
  refine jMv_of (cc := cX0_dropLayer) (maxL := 4) (by decide) rfl (Nat.le_of_ble_eq_true rfl) ?_
  intro p e s m args below meth c Q A hx hb hml hts hown hK hA hret ls hl hP hD
  have hS : va_S A s.heap s.heap [] := va_S.rf
  have hown : s.vm.findClass RX0 = some m.cls := hown
  have f9 := hts (.fieldLink RX0 9 "AntennaFill$Boxes" "net" "[I") (by decide +kernel)
  have f15 := hts (.fieldLink RX0 15 "AntennaFill$Boxes" "layer" "[I") (by decide +kernel)
  have f18 := hts (.fieldLink RX0 18 "AntennaFill$Boxes" "x0" "[I") (by decide +kernel)
  have f21 := hts (.fieldLink RX0 21 "AntennaFill$Boxes" "y0" "[I") (by decide +kernel)
  have f24 := hts (.fieldLink RX0 24 "AntennaFill$Boxes" "x1" "[I") (by decide +kernel)
  have f27 := hts (.fieldLink RX0 27 "AntennaFill$Boxes" "y1" "[I") (by decide +kernel)
  have f30 := hts (.fieldLink RX0 30 "AntennaFill$Boxes" "size" "I") (by decide +kernel)
  have inX0 : ∀ w ∈ wsX00, w ∈ wsX0_dropLayer := by decide +kernel
  have hl : lv_has ls 4 [(0, .ref o), (1, .int (jI w))] := hl
  have L12 : ∀ (fuel : Nat) (i : Int) (fn' : Int → Int) (fl' : Int → Int) (fx' : Int → Int) (fy' : Int → Int) (fu' : Int → Int) (fv' : Int → Int) (sz' : Int), (0 ≤ i ∧ i ≤ sz) → (bx fn' fl' fx' fy' fu' fv' sz' ((pre L i).filter (offL w))) → (sz' ≤ i) → (∀ k : Int, i ≤ k → fn' k = fn k ∧ fl' k = fl k ∧ fx' k = fx k ∧ fy' k = fy k ∧ fu' k = fu k ∧ fv' k = fv k) → (sz - i < (fuel : Int)) → ∀ (H : Heap) (locs : List Loc) (ls : Array Slot), va_P D jcl [(o, .inr (0, [.ref a0, .ref a1, .ref a2, .ref a3, .ref a4, .ref a5, .int (jI sz')])), (a0, .inl (g.1, n, .inl (aI fn'))), (a1, .inl (g.1, n, .inl (aI fl'))), (a2, .inl (g.1, n, .inl (aI fx'))), (a3, .inl (g.1, n, .inl (aI fy'))), (a4, .inl (g.1, n, .inl (aI fu'))), (a5, .inl (g.1, n, .inl (aI fv')))] H → va_D A [(o, .inr (0, [.ref a0, .ref a1, .ref a2, .ref a3, .ref a4, .ref a5, .int (jI sz')])), (a0, .inl (g.1, n, .inl (aI fn'))), (a1, .inl (g.1, n, .inl (aI fl'))), (a2, .inl (g.1, n, .inl (aI fx'))), (a3, .inl (g.1, n, .inl (aI fy'))), (a4, .inl (g.1, n, .inl (aI fu'))), (a5, .inl (g.1, n, .inl (aI fv')))] → va_S A s.heap H locs → lv_has ls 4 [(0, .ref o), (1, .int (jI w)), (2, .int (jI sz)), (3, .int (jI i))] → W p l e (jR 2 50) s m args below meth c H locs 0 0 Q (F0 m 12 ls []) := by
    intro fuel
    induction fuel with
    | zero =>
      intro i fn' fl' fx' fy' fu' fv' sz' hi hB2 hs hk hfu
      exfalso; omega
    | succ fuel ihL12 =>
      intro i fn' fl' fx' fy' fu' fv' sz' hi hB2 hs hk hfu H locs ls hP hD hS hl
      refine lv_iload_n hx hb dX0_dropLayer_12 rfl (lv_at hl 3 rfl) ?_
      refine lv_iload_n hx hb dX0_dropLayer_13 rfl (lv_at hl 2 rfl) ?_
      refine jv_icmp_ge (tgt := 73) hx hb ⟨by omega, by omega⟩ ⟨by omega, by omega⟩ dX0_dropLayer_14 (by decide) (fun c14 => ?_) (fun c14 => ?_)
      · skip
        exact hret  (fn', fl', fx', fy', fu', fv', sz') _ _ _ _ (by rw [← pre_all (L := L) (i := i) (by rw [← hB.1]; omega)]; exact hB2) (hP.sub [0, 1, 2, 3, 4, 5, 6] rfl) (hD.sub [0, 1, 2, 3, 4, 5, 6] (by decide) rfl) hS dX0_dropLayer_73
      · skip
        obtain ⟨q, hq, hm, e0, e1, e2, e3, e4, e5, hok⟩ := bx_at hB (k := i) ⟨hi.1, by omega⟩
        have hok2 := hok
        unfold okQ at hok
        obtain ⟨k0, k1, k2, k3, k4, k5⟩ := hk i (Int.le_refl i)
        have h00 : 0 ≤ sz' := by rw [hB2.1]; omega
        refine lv_aload_n hx hb dX0_dropLayer_17 rfl (lv_at hl 0 rfl) ?_
        refine va_get (D := D) (ci := 0) (v := .ref a1) (C := RX0) (T := TX0) (N := 7) hx hb hts inX0 hown hK hP 0 rfl rfl 1 (by decide) f15 (fun _ h9 => h9) rfl dX0_dropLayer_18 ?_
        refine lv_iload_n hx hb dX0_dropLayer_21 rfl (lv_at hl 3 rfl) ?_
        refine jv_iald hx hb hK hP 2 0 rfl rfl (i := i) ⟨by omega, by omega⟩ hn dX0_dropLayer_22 ?_
        refine lv_iload_n hx hb dX0_dropLayer_23 rfl (lv_at hl 1 rfl) ?_
        refine jv_icmp_eq (tgt := 67) hx hb ⟨by omega, by omega⟩ ⟨by omega, by omega⟩ dX0_dropLayer_24 (by decide) (fun c24 => ?_) (fun c24 => ?_)
        · skip
          refine jv_iinc (lv2 := [(3, .int (jI (i + 1))), (0, .ref o), (1, .int (jI w)), (2, .int (jI sz))]) hx hb dX0_dropLayer_67 hl (k := 3) rfl (by decide) rfl (fun ls hl => ?_)
          refine lv_goto (tgt := 12) hx hb dX0_dropLayer_70 (by decide) ?_
          exact ihL12 (i + 1) fn' fl' fx' fy' fu' fv' sz' (by omega) (by first | (rw [flt_n _ hi.1 hq (offL_f (by omega))]; exact hB2) | (rw [flt_s _ hi.1 hq (offL_t (by omega))]; exact bx_push hB2 hok2 (by omega) (by omega) (by omega) (by omega) (by omega) (by omega))) (by omega) (fun k h => by first | exact hk k (by omega) | exact upI_k6 (by omega) (hk k (by omega))) (by omega) _ _ _ (hP.sub [0, 1, 2, 3, 4, 5, 6] rfl) (hD.sub [0, 1, 2, 3, 4, 5, 6] (by decide) rfl) hS (lv_sub hl [1, 2, 3, 0] rfl)
        · skip
          refine lv_aload_n hx hb dX0_dropLayer_27 rfl (lv_at hl 0 rfl) ?_
          refine lv_aload_n hx hb dX0_dropLayer_28 rfl (lv_at hl 0 rfl) ?_
          refine va_get (D := D) (ci := 0) (v := .ref a0) (C := RX0) (T := TX0) (N := 7) hx hb hts inX0 hown hK hP 0 rfl rfl 0 (by decide) f9 (fun _ h9 => h9) rfl dX0_dropLayer_29 ?_
          refine lv_iload_n hx hb dX0_dropLayer_32 rfl (lv_at hl 3 rfl) ?_
          refine jv_iald hx hb hK hP 1 0 rfl rfl (i := i) ⟨by omega, by omega⟩ hn dX0_dropLayer_33 ?_
          refine lv_aload_n hx hb dX0_dropLayer_34 rfl (lv_at hl 0 rfl) ?_
          refine va_get (D := D) (ci := 0) (v := .ref a1) (C := RX0) (T := TX0) (N := 7) hx hb hts inX0 hown hK hP 0 rfl rfl 1 (by decide) f15 (fun _ h9 => h9) rfl dX0_dropLayer_35 ?_
          refine lv_iload_n hx hb dX0_dropLayer_38 rfl (lv_at hl 3 rfl) ?_
          refine jv_iald hx hb hK hP 2 0 rfl rfl (i := i) ⟨by omega, by omega⟩ hn dX0_dropLayer_39 ?_
          refine lv_aload_n hx hb dX0_dropLayer_40 rfl (lv_at hl 0 rfl) ?_
          refine va_get (D := D) (ci := 0) (v := .ref a2) (C := RX0) (T := TX0) (N := 7) hx hb hts inX0 hown hK hP 0 rfl rfl 2 (by decide) f18 (fun _ h9 => h9) rfl dX0_dropLayer_41 ?_
          refine lv_iload_n hx hb dX0_dropLayer_44 rfl (lv_at hl 3 rfl) ?_
          refine jv_iald hx hb hK hP 3 0 rfl rfl (i := i) ⟨by omega, by omega⟩ hn dX0_dropLayer_45 ?_
          refine lv_aload_n hx hb dX0_dropLayer_46 rfl (lv_at hl 0 rfl) ?_
          refine va_get (D := D) (ci := 0) (v := .ref a3) (C := RX0) (T := TX0) (N := 7) hx hb hts inX0 hown hK hP 0 rfl rfl 3 (by decide) f21 (fun _ h9 => h9) rfl dX0_dropLayer_47 ?_
          refine lv_iload_n hx hb dX0_dropLayer_50 rfl (lv_at hl 3 rfl) ?_
          refine jv_iald hx hb hK hP 4 0 rfl rfl (i := i) ⟨by omega, by omega⟩ hn dX0_dropLayer_51 ?_
          refine lv_aload_n hx hb dX0_dropLayer_52 rfl (lv_at hl 0 rfl) ?_
          refine va_get (D := D) (ci := 0) (v := .ref a4) (C := RX0) (T := TX0) (N := 7) hx hb hts inX0 hown hK hP 0 rfl rfl 4 (by decide) f24 (fun _ h9 => h9) rfl dX0_dropLayer_53 ?_
          refine lv_iload_n hx hb dX0_dropLayer_56 rfl (lv_at hl 3 rfl) ?_
          refine jv_iald hx hb hK hP 5 0 rfl rfl (i := i) ⟨by omega, by omega⟩ hn dX0_dropLayer_57 ?_
          refine lv_aload_n hx hb dX0_dropLayer_58 rfl (lv_at hl 0 rfl) ?_
          refine va_get (D := D) (ci := 0) (v := .ref a5) (C := RX0) (T := TX0) (N := 7) hx hb hts inX0 hown hK hP 0 rfl rfl 5 (by decide) f27 (fun _ h9 => h9) rfl dX0_dropLayer_59 ?_
          refine lv_iload_n hx hb dX0_dropLayer_62 rfl (lv_at hl 3 rfl) ?_
          refine jv_iald hx hb hK hP 6 0 rfl rfl (i := i) ⟨by omega, by omega⟩ hn dX0_dropLayer_63 ?_
          refine jc_Vv (As := [.int (jI (fn' i)), .int (jI (fl' i)), .int (jI (fx' i)), .int (jI (fy' i)), .int (jI (fu' i)), .int (jI (fv' i))]) (rest := []) (wq := []) ⟨hx, hb, hml, hown, hts⟩ (tX0_put l D g o a0 a1 a2 a3 a4 a5 n fn' fl' fx' fy' fu' fv' sz' (fn' i) (fl' i) (fx' i) (fy' i) (fu' i) (fv' i) (hn) (by omega)) (cwV 6 hts gX0_dropLayer_X0_put rfl rfl rfl (by decide +kernel) ⟨Nat.le_of_ble_eq_true rfl, Nat.le_of_ble_eq_true rfl⟩) hK hP hD hS hA [0, 1, 2, 3, 4, 5, 6] [] rfl rfl (by decide) (by decide) (by decide) (va_recv hK hP (ci := 0) (q0 := 0) rfl rfl) rfl rfl hl.1 (Nat.le_of_ble_eq_true rfl) dX0_dropLayer_64 ⟨Nat.le_refl 0, Nat.le_refl 0⟩ (fun u H locs hu hP hD hS => ?_)
          have hP : va_P D jcl [(o, .inr (0, [.ref a0, .ref a1, .ref a2, .ref a3, .ref a4, .ref a5, .int (jI (sz' + 1))])), (a0, .inl (g.1, n, .inl (aI (upI fn' sz' (fn' i))))), (a1, .inl (g.1, n, .inl (aI (upI fl' sz' (fl' i))))), (a2, .inl (g.1, n, .inl (aI (upI fx' sz' (fx' i))))), (a3, .inl (g.1, n, .inl (aI (upI fy' sz' (fy' i))))), (a4, .inl (g.1, n, .inl (aI (upI fu' sz' (fu' i))))), (a5, .inl (g.1, n, .inl (aI (upI fv' sz' (fv' i)))))] H := hP
          have hD : va_D A [(o, .inr (0, [.ref a0, .ref a1, .ref a2, .ref a3, .ref a4, .ref a5, .int (jI (sz' + 1))])), (a0, .inl (g.1, n, .inl (aI (upI fn' sz' (fn' i))))), (a1, .inl (g.1, n, .inl (aI (upI fl' sz' (fl' i))))), (a2, .inl (g.1, n, .inl (aI (upI fx' sz' (fx' i))))), (a3, .inl (g.1, n, .inl (aI (upI fy' sz' (fy' i))))), (a4, .inl (g.1, n, .inl (aI (upI fu' sz' (fu' i))))), (a5, .inl (g.1, n, .inl (aI (upI fv' sz' (fv' i)))))] := hD
          refine jv_iinc (lv2 := [(3, .int (jI (i + 1))), (0, .ref o), (1, .int (jI w)), (2, .int (jI sz))]) hx hb dX0_dropLayer_67 hl (k := 3) rfl (by decide) rfl (fun ls hl => ?_)
          refine lv_goto (tgt := 12) hx hb dX0_dropLayer_70 (by decide) ?_
          exact ihL12 (i + 1) (upI fn' sz' (fn' i)) (upI fl' sz' (fl' i)) (upI fx' sz' (fx' i)) (upI fy' sz' (fy' i)) (upI fu' sz' (fu' i)) (upI fv' sz' (fv' i)) (sz' + 1) (by omega) (by first | (rw [flt_n _ hi.1 hq (offL_f (by omega))]; exact hB2) | (rw [flt_s _ hi.1 hq (offL_t (by omega))]; exact bx_push hB2 hok2 (by omega) (by omega) (by omega) (by omega) (by omega) (by omega))) (by omega) (fun k h => by first | exact hk k (by omega) | exact upI_k6 (by omega) (hk k (by omega))) (by omega) _ _ _ (hP.sub [0, 1, 2, 3, 4, 5, 6] rfl) (hD.sub [0, 1, 2, 3, 4, 5, 6] (by decide) rfl) hS (lv_sub hl [1, 2, 3, 0] rfl)
  refine lv_aload_n hx hb dX0_dropLayer_0 rfl (lv_at hl 0 rfl) ?_
  refine va_get (D := D) (ci := 0) (v := .int (jI sz)) (C := RX0) (T := TX0) (N := 7) hx hb hts inX0 hown hK hP 0 rfl rfl 6 (by decide) f30 (fun _ h9 => h9) rfl dX0_dropLayer_1 ?_
  refine lv_istore_n (lv' := [(2, .int (jI sz)), (0, .ref o), (1, .int (jI w))]) hx hb dX0_dropLayer_4 rfl hl (by decide) rfl (fun ls hl => ?_)
  refine lv_aload_n hx hb dX0_dropLayer_5 rfl (lv_at hl 1 rfl) ?_
  refine jv_iconst hx hb dX0_dropLayer_6 ?_
  refine va_put (D := D) (ci := 0) (v := .int (jI 0)) (ty := .int) (C := RX0) (T := TX0) (N := 7) hx hb hts inX0 tyX0 tyX0_ok nmX0 hown hK hP hD hS 0 rfl rfl 6 (by decide) f30 (fun _ h9 => h9) rfl (by decide +kernel) rfl rfl (Nat.le_of_ble_eq_true rfl) dX0_dropLayer_7 (fun H locs hP hD hS => ?_)
  have hP : va_P D jcl [(o, .inr (0, [.ref a0, .ref a1, .ref a2, .ref a3, .ref a4, .ref a5, .int (jI 0)])), (a0, .inl (g.1, n, .inl (aI fn))), (a1, .inl (g.1, n, .inl (aI fl))), (a2, .inl (g.1, n, .inl (aI fx))), (a3, .inl (g.1, n, .inl (aI fy))), (a4, .inl (g.1, n, .inl (aI fu))), (a5, .inl (g.1, n, .inl (aI fv)))] H := hP
  have hD : va_D A [(o, .inr (0, [.ref a0, .ref a1, .ref a2, .ref a3, .ref a4, .ref a5, .int (jI 0)])), (a0, .inl (g.1, n, .inl (aI fn))), (a1, .inl (g.1, n, .inl (aI fl))), (a2, .inl (g.1, n, .inl (aI fx))), (a3, .inl (g.1, n, .inl (aI fy))), (a4, .inl (g.1, n, .inl (aI fu))), (a5, .inl (g.1, n, .inl (aI fv)))] := hD
  refine jv_iconst hx hb dX0_dropLayer_10 ?_
  refine lv_istore_n (lv' := [(3, .int (jI 0)), (2, .int (jI sz)), (0, .ref o), (1, .int (jI w))]) hx hb dX0_dropLayer_11 rfl hl (by decide) rfl (fun ls hl => ?_)
  exact L12 ((sz - 0).toNat + 1) 0 fn fl fx fy fu fv 0 (by omega) (by rw [pre_0]; exact bx_nil _ _ _ _ _ _) (by omega) (fun k _ => ⟨rfl, rfl, rfl, rfl, rfl, rfl⟩) (by omega) _ _ _ (hP.sub [0, 1, 2, 3, 4, 5, 6] rfl) (hD.sub [0, 1, 2, 3, 4, 5, 6] (by decide) rfl) hS (lv_sub hl [2, 3, 1, 0] rfl)
