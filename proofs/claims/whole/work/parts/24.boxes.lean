set_option maxHeartbeats 4000000 in
set_option maxRecDepth 100000 in
/-- Boxes.put: a rectangle more, where there is room -/
theorem cX0_put (l : Launch) (D : va_G) (g : ClassId × ClassId × ClassId) (o : Nat) (a0 : Nat) (a1 : Nat) (a2 : Nat) (a3 : Nat) (a4 : Nat) (a5 : Nat) (n : Nat) (fn : Int → Int) (fl : Int → Int) (fx : Int → Int) (fy : Int → Int) (fu : Int → Int) (fv : Int → Int) (sz : Int) (z0 : Int) (z1 : Int) (z2 : Int) (z3 : Int) (z4 : Int) (z5 : Int) (hn : n < 2147483648) (h0 : 0 ≤ sz ∧ sz < (n : Int)) : jMv l D g yX0_put wsX0_put 1 21 [.ref o, .int (jI z0), .int (jI z1), .int (jI z2), .int (jI z3), .int (jI z4), .int (jI z5)] [(o, .inr (0, [.ref a0, .ref a1, .ref a2, .ref a3, .ref a4, .ref a5, .int (jI sz)])), (a0, .inl (g.1, n, .inl (aI fn))), (a1, .inl (g.1, n, .inl (aI fl))), (a2, .inl (g.1, n, .inl (aI fx))), (a3, .inl (g.1, n, .inl (aI fy))), (a4, .inl (g.1, n, .inl (aI fu))), (a5, .inl (g.1, n, .inl (aI fv)))] (S := Unit) (fun _ => True) (fun _ => [(o, .inr (0, [.ref a0, .ref a1, .ref a2, .ref a3, .ref a4, .ref a5, .int (jI (sz + 1))])), (a0, .inl (g.1, n, .inl (aI (upI fn sz z0)))), (a1, .inl (g.1, n, .inl (aI (upI fl sz z1)))), (a2, .inl (g.1, n, .inl (aI (upI fx sz z2)))), (a3, .inl (g.1, n, .inl (aI (upI fy sz z3)))), (a4, .inl (g.1, n, .inl (aI (upI fu sz z4)))), (a5, .inl (g.1, n, .inl (aI (upI fv sz z5))))]) := by
  refine jMv_of (cc := cX0_put) (maxL := 7) (by decide) rfl (Nat.le_of_ble_eq_true rfl) ?_
  intro p e s m args below meth c Q A hx hb hml hts hown hK hA hret ls hl hP hD
  have hS : va_S A s.heap s.heap [] := va_S.rf
  have hown : s.vm.findClass RX0 = some m.cls := hown
  have f9 := hts (.fieldLink RX0 9 "AntennaFill$Boxes" "net" "[I") (by decide +kernel)
  have f15 := hts (.fieldLink RX0 15 "AntennaFill$Boxes" "layer" "[I") (by decide +kernel)
  have f18 := hts (.fieldLink RX0 18 "AntennaFill$Boxes" "x0" "[I") (by decide +kernel)
  have f21 := hts (.fieldLink RX0 21 "AntennaFill$Boxes" "y0" "[I") (by decide +kernel)
  have f24 := hts (.fieldLink RX0 24 "AntennaFill$Boxes" "x1" "[I") (by decide +kernel)
  have f27 := hts (.fieldLink RX0 27 "AntennaFill$Boxes" "y1" "[I") (by decide +kernel)
  have f30 := hts (.fieldLink RX0 30 "AntennaFill$Boxes" "size" "I") (by decide +kernel)
  have inX0 : ∀ w ∈ wsX00, w ∈ wsX0_put := by decide +kernel
  have hl : lv_has ls 7 [(0, .ref o), (1, .int (jI z0)), (2, .int (jI z1)), (3, .int (jI z2)), (4, .int (jI z3)), (5, .int (jI z4)), (6, .int (jI z5))] := hl
  refine lv_aload_n hx hb dX0_put_0 rfl (lv_at hl 0 rfl) ?_
  refine va_get (D := D) (ci := 0) (v := .int (jI sz)) (C := RX0) (T := TX0) (N := 7) hx hb hts inX0 hown hK hP 0 rfl rfl 6 (by decide) f30 (fun _ h9 => h9) rfl dX0_put_1 ?_
  refine lv_aload_n hx hb dX0_put_4 rfl (lv_at hl 0 rfl) ?_
  refine va_get (D := D) (ci := 0) (v := .ref a0) (C := RX0) (T := TX0) (N := 7) hx hb hts inX0 hown hK hP 0 rfl rfl 0 (by decide) f9 (fun _ h9 => h9) rfl dX0_put_5 ?_
  refine jv_alen hx hb hK hP 1 0 rfl rfl dX0_put_8 ?_
  refine jv_top (b := (n : Int)) (by first | rfl | omega) ?_
  refine jv_icmp_ge (tgt := 85) hx hb ⟨by omega, by omega⟩ ⟨by omega, by omega⟩ dX0_put_9 (by decide) (fun c9 => ?_) (fun c9 => ?_)
  · exfalso; omega
  · skip
    refine lv_aload_n hx hb dX0_put_12 rfl (lv_at hl 0 rfl) ?_
    refine va_get (D := D) (ci := 0) (v := .ref a0) (C := RX0) (T := TX0) (N := 7) hx hb hts inX0 hown hK hP 0 rfl rfl 0 (by decide) f9 (fun _ h9 => h9) rfl dX0_put_13 ?_
    refine lv_aload_n hx hb dX0_put_16 rfl (lv_at hl 0 rfl) ?_
    refine va_get (D := D) (ci := 0) (v := .int (jI sz)) (C := RX0) (T := TX0) (N := 7) hx hb hts inX0 hown hK hP 0 rfl rfl 6 (by decide) f30 (fun _ h9 => h9) rfl dX0_put_17 ?_
    refine lv_iload_n hx hb dX0_put_20 rfl (lv_at hl 1 rfl) ?_
    refine jv_iast hx hb hK hP hD hS 1 0 rfl rfl (i := sz) (x := z0) ⟨by omega, by omega⟩ hn dX0_put_21 (fun H locs hP hD hS => ?_)
    have hP : va_P D jcl [(o, .inr (0, [.ref a0, .ref a1, .ref a2, .ref a3, .ref a4, .ref a5, .int (jI sz)])), (a0, .inl (g.1, n, .inl (aI (upI fn sz z0)))), (a1, .inl (g.1, n, .inl (aI fl))), (a2, .inl (g.1, n, .inl (aI fx))), (a3, .inl (g.1, n, .inl (aI fy))), (a4, .inl (g.1, n, .inl (aI fu))), (a5, .inl (g.1, n, .inl (aI fv)))] H := hP
    have hD : va_D A [(o, .inr (0, [.ref a0, .ref a1, .ref a2, .ref a3, .ref a4, .ref a5, .int (jI sz)])), (a0, .inl (g.1, n, .inl (aI (upI fn sz z0)))), (a1, .inl (g.1, n, .inl (aI fl))), (a2, .inl (g.1, n, .inl (aI fx))), (a3, .inl (g.1, n, .inl (aI fy))), (a4, .inl (g.1, n, .inl (aI fu))), (a5, .inl (g.1, n, .inl (aI fv)))] := hD
    refine lv_aload_n hx hb dX0_put_22 rfl (lv_at hl 0 rfl) ?_
    refine va_get (D := D) (ci := 0) (v := .ref a1) (C := RX0) (T := TX0) (N := 7) hx hb hts inX0 hown hK hP 0 rfl rfl 1 (by decide) f15 (fun _ h9 => h9) rfl dX0_put_23 ?_
    refine lv_aload_n hx hb dX0_put_26 rfl (lv_at hl 0 rfl) ?_
    refine va_get (D := D) (ci := 0) (v := .int (jI sz)) (C := RX0) (T := TX0) (N := 7) hx hb hts inX0 hown hK hP 0 rfl rfl 6 (by decide) f30 (fun _ h9 => h9) rfl dX0_put_27 ?_
    refine lv_iload_n hx hb dX0_put_30 rfl (lv_at hl 2 rfl) ?_
    refine jv_iast hx hb hK hP hD hS 2 0 rfl rfl (i := sz) (x := z1) ⟨by omega, by omega⟩ hn dX0_put_31 (fun H locs hP hD hS => ?_)
    have hP : va_P D jcl [(o, .inr (0, [.ref a0, .ref a1, .ref a2, .ref a3, .ref a4, .ref a5, .int (jI sz)])), (a0, .inl (g.1, n, .inl (aI (upI fn sz z0)))), (a1, .inl (g.1, n, .inl (aI (upI fl sz z1)))), (a2, .inl (g.1, n, .inl (aI fx))), (a3, .inl (g.1, n, .inl (aI fy))), (a4, .inl (g.1, n, .inl (aI fu))), (a5, .inl (g.1, n, .inl (aI fv)))] H := hP
    have hD : va_D A [(o, .inr (0, [.ref a0, .ref a1, .ref a2, .ref a3, .ref a4, .ref a5, .int (jI sz)])), (a0, .inl (g.1, n, .inl (aI (upI fn sz z0)))), (a1, .inl (g.1, n, .inl (aI (upI fl sz z1)))), (a2, .inl (g.1, n, .inl (aI fx))), (a3, .inl (g.1, n, .inl (aI fy))), (a4, .inl (g.1, n, .inl (aI fu))), (a5, .inl (g.1, n, .inl (aI fv)))] := hD
    refine lv_aload_n hx hb dX0_put_32 rfl (lv_at hl 0 rfl) ?_
    refine va_get (D := D) (ci := 0) (v := .ref a2) (C := RX0) (T := TX0) (N := 7) hx hb hts inX0 hown hK hP 0 rfl rfl 2 (by decide) f18 (fun _ h9 => h9) rfl dX0_put_33 ?_
    refine lv_aload_n hx hb dX0_put_36 rfl (lv_at hl 0 rfl) ?_
    refine va_get (D := D) (ci := 0) (v := .int (jI sz)) (C := RX0) (T := TX0) (N := 7) hx hb hts inX0 hown hK hP 0 rfl rfl 6 (by decide) f30 (fun _ h9 => h9) rfl dX0_put_37 ?_
    refine lv_iload_n hx hb dX0_put_40 rfl (lv_at hl 3 rfl) ?_
    refine jv_iast hx hb hK hP hD hS 3 0 rfl rfl (i := sz) (x := z2) ⟨by omega, by omega⟩ hn dX0_put_41 (fun H locs hP hD hS => ?_)
    have hP : va_P D jcl [(o, .inr (0, [.ref a0, .ref a1, .ref a2, .ref a3, .ref a4, .ref a5, .int (jI sz)])), (a0, .inl (g.1, n, .inl (aI (upI fn sz z0)))), (a1, .inl (g.1, n, .inl (aI (upI fl sz z1)))), (a2, .inl (g.1, n, .inl (aI (upI fx sz z2)))), (a3, .inl (g.1, n, .inl (aI fy))), (a4, .inl (g.1, n, .inl (aI fu))), (a5, .inl (g.1, n, .inl (aI fv)))] H := hP
    have hD : va_D A [(o, .inr (0, [.ref a0, .ref a1, .ref a2, .ref a3, .ref a4, .ref a5, .int (jI sz)])), (a0, .inl (g.1, n, .inl (aI (upI fn sz z0)))), (a1, .inl (g.1, n, .inl (aI (upI fl sz z1)))), (a2, .inl (g.1, n, .inl (aI (upI fx sz z2)))), (a3, .inl (g.1, n, .inl (aI fy))), (a4, .inl (g.1, n, .inl (aI fu))), (a5, .inl (g.1, n, .inl (aI fv)))] := hD
    refine lv_aload_n hx hb dX0_put_42 rfl (lv_at hl 0 rfl) ?_
    refine va_get (D := D) (ci := 0) (v := .ref a3) (C := RX0) (T := TX0) (N := 7) hx hb hts inX0 hown hK hP 0 rfl rfl 3 (by decide) f21 (fun _ h9 => h9) rfl dX0_put_43 ?_
    refine lv_aload_n hx hb dX0_put_46 rfl (lv_at hl 0 rfl) ?_
    refine va_get (D := D) (ci := 0) (v := .int (jI sz)) (C := RX0) (T := TX0) (N := 7) hx hb hts inX0 hown hK hP 0 rfl rfl 6 (by decide) f30 (fun _ h9 => h9) rfl dX0_put_47 ?_
    refine lv_iload hx hb dX0_put_50 (lv_at hl 4 rfl) ?_
    refine jv_iast hx hb hK hP hD hS 4 0 rfl rfl (i := sz) (x := z3) ⟨by omega, by omega⟩ hn dX0_put_52 (fun H locs hP hD hS => ?_)
    have hP : va_P D jcl [(o, .inr (0, [.ref a0, .ref a1, .ref a2, .ref a3, .ref a4, .ref a5, .int (jI sz)])), (a0, .inl (g.1, n, .inl (aI (upI fn sz z0)))), (a1, .inl (g.1, n, .inl (aI (upI fl sz z1)))), (a2, .inl (g.1, n, .inl (aI (upI fx sz z2)))), (a3, .inl (g.1, n, .inl (aI (upI fy sz z3)))), (a4, .inl (g.1, n, .inl (aI fu))), (a5, .inl (g.1, n, .inl (aI fv)))] H := hP
    have hD : va_D A [(o, .inr (0, [.ref a0, .ref a1, .ref a2, .ref a3, .ref a4, .ref a5, .int (jI sz)])), (a0, .inl (g.1, n, .inl (aI (upI fn sz z0)))), (a1, .inl (g.1, n, .inl (aI (upI fl sz z1)))), (a2, .inl (g.1, n, .inl (aI (upI fx sz z2)))), (a3, .inl (g.1, n, .inl (aI (upI fy sz z3)))), (a4, .inl (g.1, n, .inl (aI fu))), (a5, .inl (g.1, n, .inl (aI fv)))] := hD
    refine lv_aload_n hx hb dX0_put_53 rfl (lv_at hl 0 rfl) ?_
    refine va_get (D := D) (ci := 0) (v := .ref a4) (C := RX0) (T := TX0) (N := 7) hx hb hts inX0 hown hK hP 0 rfl rfl 4 (by decide) f24 (fun _ h9 => h9) rfl dX0_put_54 ?_
    refine lv_aload_n hx hb dX0_put_57 rfl (lv_at hl 0 rfl) ?_
    refine va_get (D := D) (ci := 0) (v := .int (jI sz)) (C := RX0) (T := TX0) (N := 7) hx hb hts inX0 hown hK hP 0 rfl rfl 6 (by decide) f30 (fun _ h9 => h9) rfl dX0_put_58 ?_
    refine lv_iload hx hb dX0_put_61 (lv_at hl 5 rfl) ?_
    refine jv_iast hx hb hK hP hD hS 5 0 rfl rfl (i := sz) (x := z4) ⟨by omega, by omega⟩ hn dX0_put_63 (fun H locs hP hD hS => ?_)
    have hP : va_P D jcl [(o, .inr (0, [.ref a0, .ref a1, .ref a2, .ref a3, .ref a4, .ref a5, .int (jI sz)])), (a0, .inl (g.1, n, .inl (aI (upI fn sz z0)))), (a1, .inl (g.1, n, .inl (aI (upI fl sz z1)))), (a2, .inl (g.1, n, .inl (aI (upI fx sz z2)))), (a3, .inl (g.1, n, .inl (aI (upI fy sz z3)))), (a4, .inl (g.1, n, .inl (aI (upI fu sz z4)))), (a5, .inl (g.1, n, .inl (aI fv)))] H := hP
    have hD : va_D A [(o, .inr (0, [.ref a0, .ref a1, .ref a2, .ref a3, .ref a4, .ref a5, .int (jI sz)])), (a0, .inl (g.1, n, .inl (aI (upI fn sz z0)))), (a1, .inl (g.1, n, .inl (aI (upI fl sz z1)))), (a2, .inl (g.1, n, .inl (aI (upI fx sz z2)))), (a3, .inl (g.1, n, .inl (aI (upI fy sz z3)))), (a4, .inl (g.1, n, .inl (aI (upI fu sz z4)))), (a5, .inl (g.1, n, .inl (aI fv)))] := hD
    refine lv_aload_n hx hb dX0_put_64 rfl (lv_at hl 0 rfl) ?_
    refine va_get (D := D) (ci := 0) (v := .ref a5) (C := RX0) (T := TX0) (N := 7) hx hb hts inX0 hown hK hP 0 rfl rfl 5 (by decide) f27 (fun _ h9 => h9) rfl dX0_put_65 ?_
    refine lv_aload_n hx hb dX0_put_68 rfl (lv_at hl 0 rfl) ?_
    refine va_get (D := D) (ci := 0) (v := .int (jI sz)) (C := RX0) (T := TX0) (N := 7) hx hb hts inX0 hown hK hP 0 rfl rfl 6 (by decide) f30 (fun _ h9 => h9) rfl dX0_put_69 ?_
    refine lv_iload hx hb dX0_put_72 (lv_at hl 6 rfl) ?_
    refine jv_iast hx hb hK hP hD hS 6 0 rfl rfl (i := sz) (x := z5) ⟨by omega, by omega⟩ hn dX0_put_74 (fun H locs hP hD hS => ?_)
    have hP : va_P D jcl [(o, .inr (0, [.ref a0, .ref a1, .ref a2, .ref a3, .ref a4, .ref a5, .int (jI sz)])), (a0, .inl (g.1, n, .inl (aI (upI fn sz z0)))), (a1, .inl (g.1, n, .inl (aI (upI fl sz z1)))), (a2, .inl (g.1, n, .inl (aI (upI fx sz z2)))), (a3, .inl (g.1, n, .inl (aI (upI fy sz z3)))), (a4, .inl (g.1, n, .inl (aI (upI fu sz z4)))), (a5, .inl (g.1, n, .inl (aI (upI fv sz z5))))] H := hP
    have hD : va_D A [(o, .inr (0, [.ref a0, .ref a1, .ref a2, .ref a3, .ref a4, .ref a5, .int (jI sz)])), (a0, .inl (g.1, n, .inl (aI (upI fn sz z0)))), (a1, .inl (g.1, n, .inl (aI (upI fl sz z1)))), (a2, .inl (g.1, n, .inl (aI (upI fx sz z2)))), (a3, .inl (g.1, n, .inl (aI (upI fy sz z3)))), (a4, .inl (g.1, n, .inl (aI (upI fu sz z4)))), (a5, .inl (g.1, n, .inl (aI (upI fv sz z5))))] := hD
    refine lv_aload_n hx hb dX0_put_75 rfl (lv_at hl 0 rfl) ?_
    refine lv_dup hx hb dX0_put_76 rfl ?_
    refine va_get (D := D) (ci := 0) (v := .int (jI sz)) (C := RX0) (T := TX0) (N := 7) hx hb hts inX0 hown hK hP 0 rfl rfl 6 (by decide) f30 (fun _ h9 => h9) rfl dX0_put_77 ?_
    refine jv_iconst hx hb dX0_put_80 ?_
    refine jv_iadd hx hb dX0_put_81 ?_
    refine va_put (D := D) (ci := 0) (v := .int (jI (sz + 1))) (ty := .int) (C := RX0) (T := TX0) (N := 7) hx hb hts inX0 tyX0 tyX0_ok nmX0 hown hK hP hD hS 0 rfl rfl 6 (by decide) f30 (fun _ h9 => h9) rfl (by decide +kernel) rfl rfl (Nat.le_of_ble_eq_true rfl) dX0_put_82 (fun H locs hP hD hS => ?_)
    have hP : va_P D jcl [(o, .inr (0, [.ref a0, .ref a1, .ref a2, .ref a3, .ref a4, .ref a5, .int (jI (sz + 1))])), (a0, .inl (g.1, n, .inl (aI (upI fn sz z0)))), (a1, .inl (g.1, n, .inl (aI (upI fl sz z1)))), (a2, .inl (g.1, n, .inl (aI (upI fx sz z2)))), (a3, .inl (g.1, n, .inl (aI (upI fy sz z3)))), (a4, .inl (g.1, n, .inl (aI (upI fu sz z4)))), (a5, .inl (g.1, n, .inl (aI (upI fv sz z5))))] H := hP
    have hD : va_D A [(o, .inr (0, [.ref a0, .ref a1, .ref a2, .ref a3, .ref a4, .ref a5, .int (jI (sz + 1))])), (a0, .inl (g.1, n, .inl (aI (upI fn sz z0)))), (a1, .inl (g.1, n, .inl (aI (upI fl sz z1)))), (a2, .inl (g.1, n, .inl (aI (upI fx sz z2)))), (a3, .inl (g.1, n, .inl (aI (upI fy sz z3)))), (a4, .inl (g.1, n, .inl (aI (upI fu sz z4)))), (a5, .inl (g.1, n, .inl (aI (upI fv sz z5))))] := hD
    exact hret  () _ _ _ _ (trivial) (hP.sub [0, 1, 2, 3, 4, 5, 6] rfl) (hD.sub [0, 1, 2, 3, 4, 5, 6] (by decide) rfl) hS dX0_put_85
