/-! the constructors: what they make, all rows 0, the upper bounds 100 -/
def lyF (z : Int) : Int := max 1 (min 64 z)
def nlF (z : Int) : Nat := (40 * lyF z).toNat
def lnF (z : Int) : Nat := (lyF z).toNat
theorem nlF_spec (z : Int) : (nlF z : Int) = 40 * lyF z ∧ (lnF z : Int) = lyF z ∧ 1 ≤ lyF z ∧ lyF z ≤ 64 ∧ nlF z ≤ 2560 ∧ lnF z ≤ 64 := by
  unfold nlF lnF lyF
  omega
def adF (L : List (Nat × Nat)) (k : Nat) : Nat := match L with
  | [] => 0
  | p :: L => if p.1 = k then p.2 else adF L k
theorem dfX0 : ∀ j, j < 7 → defaultValue (tyX0 j) = vp_V [.null, .null, .null, .null, .null, .null, .int (jI 0)] j := fun j hj => by rcases (show j = 0 ∨ j = 1 ∨ j = 2 ∨ j = 3 ∨ j = 4 ∨ j = 5 ∨ j = 6 by omega) with rfl | rfl | rfl | rfl | rfl | rfl | rfl <;> rfl
theorem dfX1 : ∀ j, j < 12 → defaultValue (tyX1 j) = vp_V [.null, .null, .null, .null, .null, .null, .null, .int (jI 0), .int (jI 0), .int (jI 0), .int (jI 0), .int (jI 0)] j := fun j hj => by rcases (show j = 0 ∨ j = 1 ∨ j = 2 ∨ j = 3 ∨ j = 4 ∨ j = 5 ∨ j = 6 ∨ j = 7 ∨ j = 8 ∨ j = 9 ∨ j = 10 ∨ j = 11 by omega) with rfl | rfl | rfl | rfl | rfl | rfl | rfl | rfl | rfl | rfl | rfl | rfl <;> rfl
theorem dfX2 : ∀ j, j < 6 → defaultValue (tyX2 j) = vp_V [.null, .int (jI 0), .int (jI 0), .int (jI 0), .int (jI 0), .int (jI 0)] j := fun j hj => by rcases (show j = 0 ∨ j = 1 ∨ j = 2 ∨ j = 3 ∨ j = 4 ∨ j = 5 by omega) with rfl | rfl | rfl | rfl | rfl | rfl <;> rfl
theorem dfX3 : ∀ j, j < 2 → defaultValue (tyX3 j) = vp_V [.null, .int (jI 0)] j := fun j hj => by rcases (show j = 0 ∨ j = 1 by omega) with rfl | rfl <;> rfl
theorem dfX4 : ∀ j, j < 19 → defaultValue (tyX4 j) = vp_V [.int (jI 0), .int (jI 0), .null, .null, .null, .null, .null, .int (jI 0), .null, .null, .null, .null, .null, .null, .null, .int (jI 0), .null, .null, .null] j := fun j hj => by rcases (show j = 0 ∨ j = 1 ∨ j = 2 ∨ j = 3 ∨ j = 4 ∨ j = 5 ∨ j = 6 ∨ j = 7 ∨ j = 8 ∨ j = 9 ∨ j = 10 ∨ j = 11 ∨ j = 12 ∨ j = 13 ∨ j = 14 ∨ j = 15 ∨ j = 16 ∨ j = 17 ∨ j = 18 by omega) with rfl | rfl | rfl | rfl | rfl | rfl | rfl | rfl | rfl | rfl | rfl | rfl | rfl | rfl | rfl | rfl | rfl | rfl | rfl <;> rfl
theorem dfX5 : ∀ j, j < 31 → defaultValue (tyX5 j) = vp_V [.int (jI 0), .int (jI 0), .int (jI 0), .null, .int (jI 0), .null, .null, .null, .int (jI 0), .null, .null, .null, .int (jI 0), .null, .null, .null, .null, .null, .null, .null, .null, .int (jI 0), .null, .null, .null, .null, .null, .int (jI 0), .null, .null, .null] j := fun j hj => by rcases (show j = 0 ∨ j = 1 ∨ j = 2 ∨ j = 3 ∨ j = 4 ∨ j = 5 ∨ j = 6 ∨ j = 7 ∨ j = 8 ∨ j = 9 ∨ j = 10 ∨ j = 11 ∨ j = 12 ∨ j = 13 ∨ j = 14 ∨ j = 15 ∨ j = 16 ∨ j = 17 ∨ j = 18 ∨ j = 19 ∨ j = 20 ∨ j = 21 ∨ j = 22 ∨ j = 23 ∨ j = 24 ∨ j = 25 ∨ j = 26 ∨ j = 27 ∨ j = 28 ∨ j = 29 ∨ j = 30 by omega) with rfl | rfl | rfl | rfl | rfl | rfl | rfl | rfl | rfl | rfl | rfl | rfl | rfl | rfl | rfl | rfl | rfl | rfl | rfl | rfl | rfl | rfl | rfl | rfl | rfl | rfl | rfl | rfl | rfl | rfl | rfl <;> rfl
set_option maxHeartbeats 4000000 in
set_option maxRecDepth 100000 in
/-- Boxes(most): six rows of most ints, all 0 -/
theorem tX0_init (l : Launch) (D : va_G) (g : ClassId × ClassId × ClassId) (h : Nat) (n : Nat) (hn : n ≤ 2000) : jN l D g yX0_init wsX0_init 1 30 6 12000 [.ref h, .int (jI (n : Int))] [(h, .inr (0, [.null, .null, .null, .null, .null, .null, .int (jI 0)]))] (S := Nat × Nat × Nat × Nat × Nat × Nat) (fun _ => True) (fun u => [(h, .inr (0, [.ref u.1, .ref u.2.1, .ref u.2.2.1, .ref u.2.2.2.1, .ref u.2.2.2.2.1, .ref u.2.2.2.2.2, .int (jI 0)])), (u.1, .inl (g.1, n, .inl (aI (fun _ => 0)))), (u.2.1, .inl (g.1, n, .inl (aI (fun _ => 0)))), (u.2.2.1, .inl (g.1, n, .inl (aI (fun _ => 0)))), (u.2.2.2.1, .inl (g.1, n, .inl (aI (fun _ => 0)))), (u.2.2.2.2.1, .inl (g.1, n, .inl (aI (fun _ => 0)))), (u.2.2.2.2.2, .inl (g.1, n, .inl (aI (fun _ => 0))))]) := by
  refine jN_of (cc := cX0_init) (maxL := 2) (by decide) rfl rfl (Nat.le_of_ble_eq_true rfl) ?_
  intro p e s m args below meth c Q A hx hb hml hts hown hK hA hin hret ls hl hP hD
  have hS : va_S A s.heap s.heap [] := va_S.rf
  have hown : s.vm.findClass RX0 = some m.cls := hown
  have f9 := hts (.fieldLink RX0 9 "AntennaFill$Boxes" "net" "[I") (by decide +kernel)
  have f15 := hts (.fieldLink RX0 15 "AntennaFill$Boxes" "layer" "[I") (by decide +kernel)
  have f18 := hts (.fieldLink RX0 18 "AntennaFill$Boxes" "x0" "[I") (by decide +kernel)
  have f21 := hts (.fieldLink RX0 21 "AntennaFill$Boxes" "y0" "[I") (by decide +kernel)
  have f24 := hts (.fieldLink RX0 24 "AntennaFill$Boxes" "x1" "[I") (by decide +kernel)
  have f27 := hts (.fieldLink RX0 27 "AntennaFill$Boxes" "y1" "[I") (by decide +kernel)
  have inX0 : ∀ w ∈ wsX00, w ∈ wsX0_init := by decide +kernel
  have hl : lv_has ls 2 [(0, .ref h), (1, .int (jI (n : Int)))] := hl
  refine lv_aload_n hx hb dX0_init_0 rfl (lv_at hl 0 rfl) ?_
  refine W.objInit hx hb hown (hts (.methodLink RX0 3 objectInit) (by decide +kernel)) (hts (.instanceMethod objectInit) (by decide +kernel)) (hts _ (List.mem_of_getElem? (i := 3) rfl)) rfl (by rw [hml]; exact hl.1) rfl dX0_init_1 (Nat.le_of_ble_eq_true rfl) (Nat.le_of_ble_eq_true rfl) ?_
  refine W.eq (g2 := F0 m 4 ls []) rfl ?_
  refine lv_aload_n hx hb dX0_init_4 rfl (lv_at hl 0 rfl) ?_
  refine lv_iload_n hx hb dX0_init_5 rfl (lv_at hl 1 rfl) ?_
  refine jn_newI hx hb (hts (.arrayClass .int) (by decide +kernel)) hK hP hD hS hA (n) (rfl) (by omega) (Nat.le_of_ble_eq_true rfl) (by show 0 + n ≤ 12000; omega) dX0_init_6 (fun q_1 H hP hD hS => ?_)
  refine W.widen (k := 1) (n := 2000) (by omega) (by omega) ?_
  have hP : va_P D jcl [(h, .inr (0, [.null, .null, .null, .null, .null, .null, .int (jI 0)])), (q_1, .inl (g.1, n, .inl (aI (fun _ => 0))))] H := hP
  have hD : va_D A [(h, .inr (0, [.null, .null, .null, .null, .null, .null, .int (jI 0)])), (q_1, .inl (g.1, n, .inl (aI (fun _ => 0))))] := hD
  refine va_putF (D := D) (ci := 0) (v := .ref q_1) (ty := .array .int) (C := RX0) (T := TX0) (N := 7) hx hb hts inX0 tyX0 tyX0_ok nmX0 hown hK hP hD hS 0 rfl rfl 0 (by decide) f9 (fun _ h9 => h9) rfl hin rfl (by decide +kernel) rfl rfl (Nat.le_of_ble_eq_true rfl) dX0_init_8 (fun H locs hP hD hS => ?_)
  have hP : va_P D jcl [(h, .inr (0, [.ref q_1, .null, .null, .null, .null, .null, .int (jI 0)])), (q_1, .inl (g.1, n, .inl (aI (fun _ => 0))))] H := hP
  have hD : va_D A [(h, .inr (0, [.ref q_1, .null, .null, .null, .null, .null, .int (jI 0)])), (q_1, .inl (g.1, n, .inl (aI (fun _ => 0))))] := hD
  refine lv_aload_n hx hb dX0_init_11 rfl (lv_at hl 0 rfl) ?_
  refine lv_iload_n hx hb dX0_init_12 rfl (lv_at hl 1 rfl) ?_
  refine jn_newI hx hb (hts (.arrayClass .int) (by decide +kernel)) hK hP hD hS hA (n) (rfl) (by omega) (Nat.le_of_ble_eq_true rfl) (by show 2000 + n ≤ 12000; omega) dX0_init_13 (fun q_2 H hP hD hS => ?_)
  refine W.widen (k := 2) (n := 4000) (by omega) (by omega) ?_
  have hP : va_P D jcl [(h, .inr (0, [.ref q_1, .null, .null, .null, .null, .null, .int (jI 0)])), (q_1, .inl (g.1, n, .inl (aI (fun _ => 0)))), (q_2, .inl (g.1, n, .inl (aI (fun _ => 0))))] H := hP
  have hD : va_D A [(h, .inr (0, [.ref q_1, .null, .null, .null, .null, .null, .int (jI 0)])), (q_1, .inl (g.1, n, .inl (aI (fun _ => 0)))), (q_2, .inl (g.1, n, .inl (aI (fun _ => 0))))] := hD
  refine va_putF (D := D) (ci := 0) (v := .ref q_2) (ty := .array .int) (C := RX0) (T := TX0) (N := 7) hx hb hts inX0 tyX0 tyX0_ok nmX0 hown hK hP hD hS 0 rfl rfl 1 (by decide) f15 (fun _ h9 => h9) rfl hin rfl (by decide +kernel) rfl rfl (Nat.le_of_ble_eq_true rfl) dX0_init_15 (fun H locs hP hD hS => ?_)
  have hP : va_P D jcl [(h, .inr (0, [.ref q_1, .ref q_2, .null, .null, .null, .null, .int (jI 0)])), (q_1, .inl (g.1, n, .inl (aI (fun _ => 0)))), (q_2, .inl (g.1, n, .inl (aI (fun _ => 0))))] H := hP
  have hD : va_D A [(h, .inr (0, [.ref q_1, .ref q_2, .null, .null, .null, .null, .int (jI 0)])), (q_1, .inl (g.1, n, .inl (aI (fun _ => 0)))), (q_2, .inl (g.1, n, .inl (aI (fun _ => 0))))] := hD
  refine lv_aload_n hx hb dX0_init_18 rfl (lv_at hl 0 rfl) ?_
  refine lv_iload_n hx hb dX0_init_19 rfl (lv_at hl 1 rfl) ?_
  refine jn_newI hx hb (hts (.arrayClass .int) (by decide +kernel)) hK hP hD hS hA (n) (rfl) (by omega) (Nat.le_of_ble_eq_true rfl) (by show 4000 + n ≤ 12000; omega) dX0_init_20 (fun q_3 H hP hD hS => ?_)
  refine W.widen (k := 3) (n := 6000) (by omega) (by omega) ?_
  have hP : va_P D jcl [(h, .inr (0, [.ref q_1, .ref q_2, .null, .null, .null, .null, .int (jI 0)])), (q_1, .inl (g.1, n, .inl (aI (fun _ => 0)))), (q_2, .inl (g.1, n, .inl (aI (fun _ => 0)))), (q_3, .inl (g.1, n, .inl (aI (fun _ => 0))))] H := hP
  have hD : va_D A [(h, .inr (0, [.ref q_1, .ref q_2, .null, .null, .null, .null, .int (jI 0)])), (q_1, .inl (g.1, n, .inl (aI (fun _ => 0)))), (q_2, .inl (g.1, n, .inl (aI (fun _ => 0)))), (q_3, .inl (g.1, n, .inl (aI (fun _ => 0))))] := hD
  refine va_putF (D := D) (ci := 0) (v := .ref q_3) (ty := .array .int) (C := RX0) (T := TX0) (N := 7) hx hb hts inX0 tyX0 tyX0_ok nmX0 hown hK hP hD hS 0 rfl rfl 2 (by decide) f18 (fun _ h9 => h9) rfl hin rfl (by decide +kernel) rfl rfl (Nat.le_of_ble_eq_true rfl) dX0_init_22 (fun H locs hP hD hS => ?_)
  have hP : va_P D jcl [(h, .inr (0, [.ref q_1, .ref q_2, .ref q_3, .null, .null, .null, .int (jI 0)])), (q_1, .inl (g.1, n, .inl (aI (fun _ => 0)))), (q_2, .inl (g.1, n, .inl (aI (fun _ => 0)))), (q_3, .inl (g.1, n, .inl (aI (fun _ => 0))))] H := hP
  have hD : va_D A [(h, .inr (0, [.ref q_1, .ref q_2, .ref q_3, .null, .null, .null, .int (jI 0)])), (q_1, .inl (g.1, n, .inl (aI (fun _ => 0)))), (q_2, .inl (g.1, n, .inl (aI (fun _ => 0)))), (q_3, .inl (g.1, n, .inl (aI (fun _ => 0))))] := hD
  refine lv_aload_n hx hb dX0_init_25 rfl (lv_at hl 0 rfl) ?_
  refine lv_iload_n hx hb dX0_init_26 rfl (lv_at hl 1 rfl) ?_
  refine jn_newI hx hb (hts (.arrayClass .int) (by decide +kernel)) hK hP hD hS hA (n) (rfl) (by omega) (Nat.le_of_ble_eq_true rfl) (by show 6000 + n ≤ 12000; omega) dX0_init_27 (fun q_4 H hP hD hS => ?_)
  refine W.widen (k := 4) (n := 8000) (by omega) (by omega) ?_
  have hP : va_P D jcl [(h, .inr (0, [.ref q_1, .ref q_2, .ref q_3, .null, .null, .null, .int (jI 0)])), (q_1, .inl (g.1, n, .inl (aI (fun _ => 0)))), (q_2, .inl (g.1, n, .inl (aI (fun _ => 0)))), (q_3, .inl (g.1, n, .inl (aI (fun _ => 0)))), (q_4, .inl (g.1, n, .inl (aI (fun _ => 0))))] H := hP
  have hD : va_D A [(h, .inr (0, [.ref q_1, .ref q_2, .ref q_3, .null, .null, .null, .int (jI 0)])), (q_1, .inl (g.1, n, .inl (aI (fun _ => 0)))), (q_2, .inl (g.1, n, .inl (aI (fun _ => 0)))), (q_3, .inl (g.1, n, .inl (aI (fun _ => 0)))), (q_4, .inl (g.1, n, .inl (aI (fun _ => 0))))] := hD
  refine va_putF (D := D) (ci := 0) (v := .ref q_4) (ty := .array .int) (C := RX0) (T := TX0) (N := 7) hx hb hts inX0 tyX0 tyX0_ok nmX0 hown hK hP hD hS 0 rfl rfl 3 (by decide) f21 (fun _ h9 => h9) rfl hin rfl (by decide +kernel) rfl rfl (Nat.le_of_ble_eq_true rfl) dX0_init_29 (fun H locs hP hD hS => ?_)
  have hP : va_P D jcl [(h, .inr (0, [.ref q_1, .ref q_2, .ref q_3, .ref q_4, .null, .null, .int (jI 0)])), (q_1, .inl (g.1, n, .inl (aI (fun _ => 0)))), (q_2, .inl (g.1, n, .inl (aI (fun _ => 0)))), (q_3, .inl (g.1, n, .inl (aI (fun _ => 0)))), (q_4, .inl (g.1, n, .inl (aI (fun _ => 0))))] H := hP
  have hD : va_D A [(h, .inr (0, [.ref q_1, .ref q_2, .ref q_3, .ref q_4, .null, .null, .int (jI 0)])), (q_1, .inl (g.1, n, .inl (aI (fun _ => 0)))), (q_2, .inl (g.1, n, .inl (aI (fun _ => 0)))), (q_3, .inl (g.1, n, .inl (aI (fun _ => 0)))), (q_4, .inl (g.1, n, .inl (aI (fun _ => 0))))] := hD
  refine lv_aload_n hx hb dX0_init_32 rfl (lv_at hl 0 rfl) ?_
  refine lv_iload_n hx hb dX0_init_33 rfl (lv_at hl 1 rfl) ?_
  refine jn_newI hx hb (hts (.arrayClass .int) (by decide +kernel)) hK hP hD hS hA (n) (rfl) (by omega) (Nat.le_of_ble_eq_true rfl) (by show 8000 + n ≤ 12000; omega) dX0_init_34 (fun q_5 H hP hD hS => ?_)
  refine W.widen (k := 5) (n := 10000) (by omega) (by omega) ?_
  have hP : va_P D jcl [(h, .inr (0, [.ref q_1, .ref q_2, .ref q_3, .ref q_4, .null, .null, .int (jI 0)])), (q_1, .inl (g.1, n, .inl (aI (fun _ => 0)))), (q_2, .inl (g.1, n, .inl (aI (fun _ => 0)))), (q_3, .inl (g.1, n, .inl (aI (fun _ => 0)))), (q_4, .inl (g.1, n, .inl (aI (fun _ => 0)))), (q_5, .inl (g.1, n, .inl (aI (fun _ => 0))))] H := hP
  have hD : va_D A [(h, .inr (0, [.ref q_1, .ref q_2, .ref q_3, .ref q_4, .null, .null, .int (jI 0)])), (q_1, .inl (g.1, n, .inl (aI (fun _ => 0)))), (q_2, .inl (g.1, n, .inl (aI (fun _ => 0)))), (q_3, .inl (g.1, n, .inl (aI (fun _ => 0)))), (q_4, .inl (g.1, n, .inl (aI (fun _ => 0)))), (q_5, .inl (g.1, n, .inl (aI (fun _ => 0))))] := hD
  refine va_putF (D := D) (ci := 0) (v := .ref q_5) (ty := .array .int) (C := RX0) (T := TX0) (N := 7) hx hb hts inX0 tyX0 tyX0_ok nmX0 hown hK hP hD hS 0 rfl rfl 4 (by decide) f24 (fun _ h9 => h9) rfl hin rfl (by decide +kernel) rfl rfl (Nat.le_of_ble_eq_true rfl) dX0_init_36 (fun H locs hP hD hS => ?_)
  have hP : va_P D jcl [(h, .inr (0, [.ref q_1, .ref q_2, .ref q_3, .ref q_4, .ref q_5, .null, .int (jI 0)])), (q_1, .inl (g.1, n, .inl (aI (fun _ => 0)))), (q_2, .inl (g.1, n, .inl (aI (fun _ => 0)))), (q_3, .inl (g.1, n, .inl (aI (fun _ => 0)))), (q_4, .inl (g.1, n, .inl (aI (fun _ => 0)))), (q_5, .inl (g.1, n, .inl (aI (fun _ => 0))))] H := hP
  have hD : va_D A [(h, .inr (0, [.ref q_1, .ref q_2, .ref q_3, .ref q_4, .ref q_5, .null, .int (jI 0)])), (q_1, .inl (g.1, n, .inl (aI (fun _ => 0)))), (q_2, .inl (g.1, n, .inl (aI (fun _ => 0)))), (q_3, .inl (g.1, n, .inl (aI (fun _ => 0)))), (q_4, .inl (g.1, n, .inl (aI (fun _ => 0)))), (q_5, .inl (g.1, n, .inl (aI (fun _ => 0))))] := hD
  refine lv_aload_n hx hb dX0_init_39 rfl (lv_at hl 0 rfl) ?_
  refine lv_iload_n hx hb dX0_init_40 rfl (lv_at hl 1 rfl) ?_
  refine jn_newI hx hb (hts (.arrayClass .int) (by decide +kernel)) hK hP hD hS hA (n) (rfl) (by omega) (Nat.le_of_ble_eq_true rfl) (by show 10000 + n ≤ 12000; omega) dX0_init_41 (fun q_6 H hP hD hS => ?_)
  refine W.widen (k := 6) (n := 12000) (by omega) (by omega) ?_
  have hP : va_P D jcl [(h, .inr (0, [.ref q_1, .ref q_2, .ref q_3, .ref q_4, .ref q_5, .null, .int (jI 0)])), (q_1, .inl (g.1, n, .inl (aI (fun _ => 0)))), (q_2, .inl (g.1, n, .inl (aI (fun _ => 0)))), (q_3, .inl (g.1, n, .inl (aI (fun _ => 0)))), (q_4, .inl (g.1, n, .inl (aI (fun _ => 0)))), (q_5, .inl (g.1, n, .inl (aI (fun _ => 0)))), (q_6, .inl (g.1, n, .inl (aI (fun _ => 0))))] H := hP
  have hD : va_D A [(h, .inr (0, [.ref q_1, .ref q_2, .ref q_3, .ref q_4, .ref q_5, .null, .int (jI 0)])), (q_1, .inl (g.1, n, .inl (aI (fun _ => 0)))), (q_2, .inl (g.1, n, .inl (aI (fun _ => 0)))), (q_3, .inl (g.1, n, .inl (aI (fun _ => 0)))), (q_4, .inl (g.1, n, .inl (aI (fun _ => 0)))), (q_5, .inl (g.1, n, .inl (aI (fun _ => 0)))), (q_6, .inl (g.1, n, .inl (aI (fun _ => 0))))] := hD
  refine va_putF (D := D) (ci := 0) (v := .ref q_6) (ty := .array .int) (C := RX0) (T := TX0) (N := 7) hx hb hts inX0 tyX0 tyX0_ok nmX0 hown hK hP hD hS 0 rfl rfl 5 (by decide) f27 (fun _ h9 => h9) rfl hin rfl (by decide +kernel) rfl rfl (Nat.le_of_ble_eq_true rfl) dX0_init_43 (fun H locs hP hD hS => ?_)
  have hP : va_P D jcl [(h, .inr (0, [.ref q_1, .ref q_2, .ref q_3, .ref q_4, .ref q_5, .ref q_6, .int (jI 0)])), (q_1, .inl (g.1, n, .inl (aI (fun _ => 0)))), (q_2, .inl (g.1, n, .inl (aI (fun _ => 0)))), (q_3, .inl (g.1, n, .inl (aI (fun _ => 0)))), (q_4, .inl (g.1, n, .inl (aI (fun _ => 0)))), (q_5, .inl (g.1, n, .inl (aI (fun _ => 0)))), (q_6, .inl (g.1, n, .inl (aI (fun _ => 0))))] H := hP
  have hD : va_D A [(h, .inr (0, [.ref q_1, .ref q_2, .ref q_3, .ref q_4, .ref q_5, .ref q_6, .int (jI 0)])), (q_1, .inl (g.1, n, .inl (aI (fun _ => 0)))), (q_2, .inl (g.1, n, .inl (aI (fun _ => 0)))), (q_3, .inl (g.1, n, .inl (aI (fun _ => 0)))), (q_4, .inl (g.1, n, .inl (aI (fun _ => 0)))), (q_5, .inl (g.1, n, .inl (aI (fun _ => 0)))), (q_6, .inl (g.1, n, .inl (aI (fun _ => 0))))] := hD
  exact hret (q_1, q_2, q_3, q_4, q_5, q_6) _ _ _ _ _ _ (trivial) (hP.sub [0, 1, 2, 3, 4, 5, 6] rfl) (hD.sub [0, 1, 2, 3, 4, 5, 6] (by decide) rfl) hS dX0_init_46 (by omega) (by omega)

set_option maxHeartbeats 4000000 in
set_option maxRecDepth 100000 in
/-- Cover(most) -/
theorem tX1_init (l : Launch) (D : va_G) (g : ClassId × ClassId × ClassId) (h : Nat) (n : Nat) (hn : n ≤ 2000) : jN l D g yX1_init wsX1_init 1 30 7 13000 [.ref h, .int (jI (n : Int))] [(h, .inr (1, [.null, .null, .null, .null, .null, .null, .null, .int (jI 0), .int (jI 0), .int (jI 0), .int (jI 0), .int (jI 0)]))] (S := Nat × Nat × Nat × Nat × Nat × Nat × Nat) (fun _ => True) (fun u => [(h, .inr (1, [.ref u.1, .ref u.2.1, .ref u.2.2.1, .ref u.2.2.2.1, .ref u.2.2.2.2.1, .ref u.2.2.2.2.2.1, .ref u.2.2.2.2.2.2, .int (jI 0), .int (jI 0), .int (jI 0), .int (jI 0), .int (jI 0)])), (u.1, .inl (g.1, n, .inl (aI (fun _ => 0)))), (u.2.1, .inl (g.1, n, .inl (aI (fun _ => 0)))), (u.2.2.1, .inl (g.1, n, .inl (aI (fun _ => 0)))), (u.2.2.2.1, .inl (g.1, n, .inl (aI (fun _ => 0)))), (u.2.2.2.2.1, .inl (g.1, n, .inl (aI (fun _ => 0)))), (u.2.2.2.2.2.1, .inl (g.1, 1001, .inl (aI (fun _ => 0)))), (u.2.2.2.2.2.2, .inl (g.2.2, 1001, .inl (aI (fun _ => 0))))]) := by
  refine jN_of (cc := cX1_init) (maxL := 2) (by decide) rfl rfl (Nat.le_of_ble_eq_true rfl) ?_
  intro p e s m args below meth c Q A hx hb hml hts hown hK hA hin hret ls hl hP hD
  have hS : va_S A s.heap s.heap [] := va_S.rf
  have hown : s.vm.findClass RX1 = some m.cls := hown
  have f9 := hts (.fieldLink RX1 9 "AntennaFill$Cover" "x0" "[I") (by decide +kernel)
  have f15 := hts (.fieldLink RX1 15 "AntennaFill$Cover" "y0" "[I") (by decide +kernel)
  have f18 := hts (.fieldLink RX1 18 "AntennaFill$Cover" "x1" "[I") (by decide +kernel)
  have f21 := hts (.fieldLink RX1 21 "AntennaFill$Cover" "y1" "[I") (by decide +kernel)
  have f24 := hts (.fieldLink RX1 24 "AntennaFill$Cover" "byLeft" "[I") (by decide +kernel)
  have f27 := hts (.fieldLink RX1 27 "AntennaFill$Cover" "leftStarts" "[I") (by decide +kernel)
  have f30 := hts (.fieldLink RX1 30 "AntennaFill$Cover" "cuts" "[Z") (by decide +kernel)
  have inX1 : ∀ w ∈ wsX10, w ∈ wsX1_init := by decide +kernel
  have hl : lv_has ls 2 [(0, .ref h), (1, .int (jI (n : Int)))] := hl
  refine lv_aload_n hx hb dX1_init_0 rfl (lv_at hl 0 rfl) ?_
  refine W.objInit hx hb hown (hts (.methodLink RX1 3 objectInit) (by decide +kernel)) (hts (.instanceMethod objectInit) (by decide +kernel)) (hts _ (List.mem_of_getElem? (i := 3) rfl)) rfl (by rw [hml]; exact hl.1) rfl dX1_init_1 (Nat.le_of_ble_eq_true rfl) (Nat.le_of_ble_eq_true rfl) ?_
  refine W.eq (g2 := F0 m 4 ls []) rfl ?_
  refine lv_aload_n hx hb dX1_init_4 rfl (lv_at hl 0 rfl) ?_
  refine lv_iload_n hx hb dX1_init_5 rfl (lv_at hl 1 rfl) ?_
  refine jn_newI hx hb (hts (.arrayClass .int) (by decide +kernel)) hK hP hD hS hA (n) (rfl) (by omega) (Nat.le_of_ble_eq_true rfl) (by show 0 + n ≤ 13000; omega) dX1_init_6 (fun q_1 H hP hD hS => ?_)
  refine W.widen (k := 1) (n := 2000) (by omega) (by omega) ?_
  have hP : va_P D jcl [(h, .inr (1, [.null, .null, .null, .null, .null, .null, .null, .int (jI 0), .int (jI 0), .int (jI 0), .int (jI 0), .int (jI 0)])), (q_1, .inl (g.1, n, .inl (aI (fun _ => 0))))] H := hP
  have hD : va_D A [(h, .inr (1, [.null, .null, .null, .null, .null, .null, .null, .int (jI 0), .int (jI 0), .int (jI 0), .int (jI 0), .int (jI 0)])), (q_1, .inl (g.1, n, .inl (aI (fun _ => 0))))] := hD
  refine va_putF (D := D) (ci := 1) (v := .ref q_1) (ty := .array .int) (C := RX1) (T := TX1) (N := 12) hx hb hts inX1 tyX1 tyX1_ok nmX1 hown hK hP hD hS 0 rfl rfl 0 (by decide) f9 (fun _ h9 => h9) rfl hin rfl (by decide +kernel) rfl rfl (Nat.le_of_ble_eq_true rfl) dX1_init_8 (fun H locs hP hD hS => ?_)
  have hP : va_P D jcl [(h, .inr (1, [.ref q_1, .null, .null, .null, .null, .null, .null, .int (jI 0), .int (jI 0), .int (jI 0), .int (jI 0), .int (jI 0)])), (q_1, .inl (g.1, n, .inl (aI (fun _ => 0))))] H := hP
  have hD : va_D A [(h, .inr (1, [.ref q_1, .null, .null, .null, .null, .null, .null, .int (jI 0), .int (jI 0), .int (jI 0), .int (jI 0), .int (jI 0)])), (q_1, .inl (g.1, n, .inl (aI (fun _ => 0))))] := hD
  refine lv_aload_n hx hb dX1_init_11 rfl (lv_at hl 0 rfl) ?_
  refine lv_iload_n hx hb dX1_init_12 rfl (lv_at hl 1 rfl) ?_
  refine jn_newI hx hb (hts (.arrayClass .int) (by decide +kernel)) hK hP hD hS hA (n) (rfl) (by omega) (Nat.le_of_ble_eq_true rfl) (by show 2000 + n ≤ 13000; omega) dX1_init_13 (fun q_2 H hP hD hS => ?_)
  refine W.widen (k := 2) (n := 4000) (by omega) (by omega) ?_
  have hP : va_P D jcl [(h, .inr (1, [.ref q_1, .null, .null, .null, .null, .null, .null, .int (jI 0), .int (jI 0), .int (jI 0), .int (jI 0), .int (jI 0)])), (q_1, .inl (g.1, n, .inl (aI (fun _ => 0)))), (q_2, .inl (g.1, n, .inl (aI (fun _ => 0))))] H := hP
  have hD : va_D A [(h, .inr (1, [.ref q_1, .null, .null, .null, .null, .null, .null, .int (jI 0), .int (jI 0), .int (jI 0), .int (jI 0), .int (jI 0)])), (q_1, .inl (g.1, n, .inl (aI (fun _ => 0)))), (q_2, .inl (g.1, n, .inl (aI (fun _ => 0))))] := hD
  refine va_putF (D := D) (ci := 1) (v := .ref q_2) (ty := .array .int) (C := RX1) (T := TX1) (N := 12) hx hb hts inX1 tyX1 tyX1_ok nmX1 hown hK hP hD hS 0 rfl rfl 1 (by decide) f15 (fun _ h9 => h9) rfl hin rfl (by decide +kernel) rfl rfl (Nat.le_of_ble_eq_true rfl) dX1_init_15 (fun H locs hP hD hS => ?_)
  have hP : va_P D jcl [(h, .inr (1, [.ref q_1, .ref q_2, .null, .null, .null, .null, .null, .int (jI 0), .int (jI 0), .int (jI 0), .int (jI 0), .int (jI 0)])), (q_1, .inl (g.1, n, .inl (aI (fun _ => 0)))), (q_2, .inl (g.1, n, .inl (aI (fun _ => 0))))] H := hP
  have hD : va_D A [(h, .inr (1, [.ref q_1, .ref q_2, .null, .null, .null, .null, .null, .int (jI 0), .int (jI 0), .int (jI 0), .int (jI 0), .int (jI 0)])), (q_1, .inl (g.1, n, .inl (aI (fun _ => 0)))), (q_2, .inl (g.1, n, .inl (aI (fun _ => 0))))] := hD
  refine lv_aload_n hx hb dX1_init_18 rfl (lv_at hl 0 rfl) ?_
  refine lv_iload_n hx hb dX1_init_19 rfl (lv_at hl 1 rfl) ?_
  refine jn_newI hx hb (hts (.arrayClass .int) (by decide +kernel)) hK hP hD hS hA (n) (rfl) (by omega) (Nat.le_of_ble_eq_true rfl) (by show 4000 + n ≤ 13000; omega) dX1_init_20 (fun q_3 H hP hD hS => ?_)
  refine W.widen (k := 3) (n := 6000) (by omega) (by omega) ?_
  have hP : va_P D jcl [(h, .inr (1, [.ref q_1, .ref q_2, .null, .null, .null, .null, .null, .int (jI 0), .int (jI 0), .int (jI 0), .int (jI 0), .int (jI 0)])), (q_1, .inl (g.1, n, .inl (aI (fun _ => 0)))), (q_2, .inl (g.1, n, .inl (aI (fun _ => 0)))), (q_3, .inl (g.1, n, .inl (aI (fun _ => 0))))] H := hP
  have hD : va_D A [(h, .inr (1, [.ref q_1, .ref q_2, .null, .null, .null, .null, .null, .int (jI 0), .int (jI 0), .int (jI 0), .int (jI 0), .int (jI 0)])), (q_1, .inl (g.1, n, .inl (aI (fun _ => 0)))), (q_2, .inl (g.1, n, .inl (aI (fun _ => 0)))), (q_3, .inl (g.1, n, .inl (aI (fun _ => 0))))] := hD
  refine va_putF (D := D) (ci := 1) (v := .ref q_3) (ty := .array .int) (C := RX1) (T := TX1) (N := 12) hx hb hts inX1 tyX1 tyX1_ok nmX1 hown hK hP hD hS 0 rfl rfl 2 (by decide) f18 (fun _ h9 => h9) rfl hin rfl (by decide +kernel) rfl rfl (Nat.le_of_ble_eq_true rfl) dX1_init_22 (fun H locs hP hD hS => ?_)
  have hP : va_P D jcl [(h, .inr (1, [.ref q_1, .ref q_2, .ref q_3, .null, .null, .null, .null, .int (jI 0), .int (jI 0), .int (jI 0), .int (jI 0), .int (jI 0)])), (q_1, .inl (g.1, n, .inl (aI (fun _ => 0)))), (q_2, .inl (g.1, n, .inl (aI (fun _ => 0)))), (q_3, .inl (g.1, n, .inl (aI (fun _ => 0))))] H := hP
  have hD : va_D A [(h, .inr (1, [.ref q_1, .ref q_2, .ref q_3, .null, .null, .null, .null, .int (jI 0), .int (jI 0), .int (jI 0), .int (jI 0), .int (jI 0)])), (q_1, .inl (g.1, n, .inl (aI (fun _ => 0)))), (q_2, .inl (g.1, n, .inl (aI (fun _ => 0)))), (q_3, .inl (g.1, n, .inl (aI (fun _ => 0))))] := hD
  refine lv_aload_n hx hb dX1_init_25 rfl (lv_at hl 0 rfl) ?_
  refine lv_iload_n hx hb dX1_init_26 rfl (lv_at hl 1 rfl) ?_
  refine jn_newI hx hb (hts (.arrayClass .int) (by decide +kernel)) hK hP hD hS hA (n) (rfl) (by omega) (Nat.le_of_ble_eq_true rfl) (by show 6000 + n ≤ 13000; omega) dX1_init_27 (fun q_4 H hP hD hS => ?_)
  refine W.widen (k := 4) (n := 8000) (by omega) (by omega) ?_
  have hP : va_P D jcl [(h, .inr (1, [.ref q_1, .ref q_2, .ref q_3, .null, .null, .null, .null, .int (jI 0), .int (jI 0), .int (jI 0), .int (jI 0), .int (jI 0)])), (q_1, .inl (g.1, n, .inl (aI (fun _ => 0)))), (q_2, .inl (g.1, n, .inl (aI (fun _ => 0)))), (q_3, .inl (g.1, n, .inl (aI (fun _ => 0)))), (q_4, .inl (g.1, n, .inl (aI (fun _ => 0))))] H := hP
  have hD : va_D A [(h, .inr (1, [.ref q_1, .ref q_2, .ref q_3, .null, .null, .null, .null, .int (jI 0), .int (jI 0), .int (jI 0), .int (jI 0), .int (jI 0)])), (q_1, .inl (g.1, n, .inl (aI (fun _ => 0)))), (q_2, .inl (g.1, n, .inl (aI (fun _ => 0)))), (q_3, .inl (g.1, n, .inl (aI (fun _ => 0)))), (q_4, .inl (g.1, n, .inl (aI (fun _ => 0))))] := hD
  refine va_putF (D := D) (ci := 1) (v := .ref q_4) (ty := .array .int) (C := RX1) (T := TX1) (N := 12) hx hb hts inX1 tyX1 tyX1_ok nmX1 hown hK hP hD hS 0 rfl rfl 3 (by decide) f21 (fun _ h9 => h9) rfl hin rfl (by decide +kernel) rfl rfl (Nat.le_of_ble_eq_true rfl) dX1_init_29 (fun H locs hP hD hS => ?_)
  have hP : va_P D jcl [(h, .inr (1, [.ref q_1, .ref q_2, .ref q_3, .ref q_4, .null, .null, .null, .int (jI 0), .int (jI 0), .int (jI 0), .int (jI 0), .int (jI 0)])), (q_1, .inl (g.1, n, .inl (aI (fun _ => 0)))), (q_2, .inl (g.1, n, .inl (aI (fun _ => 0)))), (q_3, .inl (g.1, n, .inl (aI (fun _ => 0)))), (q_4, .inl (g.1, n, .inl (aI (fun _ => 0))))] H := hP
  have hD : va_D A [(h, .inr (1, [.ref q_1, .ref q_2, .ref q_3, .ref q_4, .null, .null, .null, .int (jI 0), .int (jI 0), .int (jI 0), .int (jI 0), .int (jI 0)])), (q_1, .inl (g.1, n, .inl (aI (fun _ => 0)))), (q_2, .inl (g.1, n, .inl (aI (fun _ => 0)))), (q_3, .inl (g.1, n, .inl (aI (fun _ => 0)))), (q_4, .inl (g.1, n, .inl (aI (fun _ => 0))))] := hD
  refine lv_aload_n hx hb dX1_init_32 rfl (lv_at hl 0 rfl) ?_
  refine lv_iload_n hx hb dX1_init_33 rfl (lv_at hl 1 rfl) ?_
  refine jn_newI hx hb (hts (.arrayClass .int) (by decide +kernel)) hK hP hD hS hA (n) (rfl) (by omega) (Nat.le_of_ble_eq_true rfl) (by show 8000 + n ≤ 13000; omega) dX1_init_34 (fun q_5 H hP hD hS => ?_)
  refine W.widen (k := 5) (n := 10000) (by omega) (by omega) ?_
  have hP : va_P D jcl [(h, .inr (1, [.ref q_1, .ref q_2, .ref q_3, .ref q_4, .null, .null, .null, .int (jI 0), .int (jI 0), .int (jI 0), .int (jI 0), .int (jI 0)])), (q_1, .inl (g.1, n, .inl (aI (fun _ => 0)))), (q_2, .inl (g.1, n, .inl (aI (fun _ => 0)))), (q_3, .inl (g.1, n, .inl (aI (fun _ => 0)))), (q_4, .inl (g.1, n, .inl (aI (fun _ => 0)))), (q_5, .inl (g.1, n, .inl (aI (fun _ => 0))))] H := hP
  have hD : va_D A [(h, .inr (1, [.ref q_1, .ref q_2, .ref q_3, .ref q_4, .null, .null, .null, .int (jI 0), .int (jI 0), .int (jI 0), .int (jI 0), .int (jI 0)])), (q_1, .inl (g.1, n, .inl (aI (fun _ => 0)))), (q_2, .inl (g.1, n, .inl (aI (fun _ => 0)))), (q_3, .inl (g.1, n, .inl (aI (fun _ => 0)))), (q_4, .inl (g.1, n, .inl (aI (fun _ => 0)))), (q_5, .inl (g.1, n, .inl (aI (fun _ => 0))))] := hD
  refine va_putF (D := D) (ci := 1) (v := .ref q_5) (ty := .array .int) (C := RX1) (T := TX1) (N := 12) hx hb hts inX1 tyX1 tyX1_ok nmX1 hown hK hP hD hS 0 rfl rfl 4 (by decide) f24 (fun _ h9 => h9) rfl hin rfl (by decide +kernel) rfl rfl (Nat.le_of_ble_eq_true rfl) dX1_init_36 (fun H locs hP hD hS => ?_)
  have hP : va_P D jcl [(h, .inr (1, [.ref q_1, .ref q_2, .ref q_3, .ref q_4, .ref q_5, .null, .null, .int (jI 0), .int (jI 0), .int (jI 0), .int (jI 0), .int (jI 0)])), (q_1, .inl (g.1, n, .inl (aI (fun _ => 0)))), (q_2, .inl (g.1, n, .inl (aI (fun _ => 0)))), (q_3, .inl (g.1, n, .inl (aI (fun _ => 0)))), (q_4, .inl (g.1, n, .inl (aI (fun _ => 0)))), (q_5, .inl (g.1, n, .inl (aI (fun _ => 0))))] H := hP
  have hD : va_D A [(h, .inr (1, [.ref q_1, .ref q_2, .ref q_3, .ref q_4, .ref q_5, .null, .null, .int (jI 0), .int (jI 0), .int (jI 0), .int (jI 0), .int (jI 0)])), (q_1, .inl (g.1, n, .inl (aI (fun _ => 0)))), (q_2, .inl (g.1, n, .inl (aI (fun _ => 0)))), (q_3, .inl (g.1, n, .inl (aI (fun _ => 0)))), (q_4, .inl (g.1, n, .inl (aI (fun _ => 0)))), (q_5, .inl (g.1, n, .inl (aI (fun _ => 0))))] := hD
  refine lv_aload_n hx hb dX1_init_39 rfl (lv_at hl 0 rfl) ?_
  refine jv_sipush hx hb (by decide) dX1_init_40 ?_
  refine jn_newI hx hb (hts (.arrayClass .int) (by decide +kernel)) hK hP hD hS hA (1001) (rfl) (by omega) (Nat.le_of_ble_eq_true rfl) (by show 10000 + 1001 ≤ 13000; omega) dX1_init_43 (fun q_6 H hP hD hS => ?_)
  refine W.widen (k := 6) (n := 11001) (by omega) (by omega) ?_
  have hP : va_P D jcl [(h, .inr (1, [.ref q_1, .ref q_2, .ref q_3, .ref q_4, .ref q_5, .null, .null, .int (jI 0), .int (jI 0), .int (jI 0), .int (jI 0), .int (jI 0)])), (q_1, .inl (g.1, n, .inl (aI (fun _ => 0)))), (q_2, .inl (g.1, n, .inl (aI (fun _ => 0)))), (q_3, .inl (g.1, n, .inl (aI (fun _ => 0)))), (q_4, .inl (g.1, n, .inl (aI (fun _ => 0)))), (q_5, .inl (g.1, n, .inl (aI (fun _ => 0)))), (q_6, .inl (g.1, 1001, .inl (aI (fun _ => 0))))] H := hP
  have hD : va_D A [(h, .inr (1, [.ref q_1, .ref q_2, .ref q_3, .ref q_4, .ref q_5, .null, .null, .int (jI 0), .int (jI 0), .int (jI 0), .int (jI 0), .int (jI 0)])), (q_1, .inl (g.1, n, .inl (aI (fun _ => 0)))), (q_2, .inl (g.1, n, .inl (aI (fun _ => 0)))), (q_3, .inl (g.1, n, .inl (aI (fun _ => 0)))), (q_4, .inl (g.1, n, .inl (aI (fun _ => 0)))), (q_5, .inl (g.1, n, .inl (aI (fun _ => 0)))), (q_6, .inl (g.1, 1001, .inl (aI (fun _ => 0))))] := hD
  refine va_putF (D := D) (ci := 1) (v := .ref q_6) (ty := .array .int) (C := RX1) (T := TX1) (N := 12) hx hb hts inX1 tyX1 tyX1_ok nmX1 hown hK hP hD hS 0 rfl rfl 5 (by decide) f27 (fun _ h9 => h9) rfl hin rfl (by decide +kernel) rfl rfl (Nat.le_of_ble_eq_true rfl) dX1_init_45 (fun H locs hP hD hS => ?_)
  have hP : va_P D jcl [(h, .inr (1, [.ref q_1, .ref q_2, .ref q_3, .ref q_4, .ref q_5, .ref q_6, .null, .int (jI 0), .int (jI 0), .int (jI 0), .int (jI 0), .int (jI 0)])), (q_1, .inl (g.1, n, .inl (aI (fun _ => 0)))), (q_2, .inl (g.1, n, .inl (aI (fun _ => 0)))), (q_3, .inl (g.1, n, .inl (aI (fun _ => 0)))), (q_4, .inl (g.1, n, .inl (aI (fun _ => 0)))), (q_5, .inl (g.1, n, .inl (aI (fun _ => 0)))), (q_6, .inl (g.1, 1001, .inl (aI (fun _ => 0))))] H := hP
  have hD : va_D A [(h, .inr (1, [.ref q_1, .ref q_2, .ref q_3, .ref q_4, .ref q_5, .ref q_6, .null, .int (jI 0), .int (jI 0), .int (jI 0), .int (jI 0), .int (jI 0)])), (q_1, .inl (g.1, n, .inl (aI (fun _ => 0)))), (q_2, .inl (g.1, n, .inl (aI (fun _ => 0)))), (q_3, .inl (g.1, n, .inl (aI (fun _ => 0)))), (q_4, .inl (g.1, n, .inl (aI (fun _ => 0)))), (q_5, .inl (g.1, n, .inl (aI (fun _ => 0)))), (q_6, .inl (g.1, 1001, .inl (aI (fun _ => 0))))] := hD
  refine lv_aload_n hx hb dX1_init_48 rfl (lv_at hl 0 rfl) ?_
  refine jv_sipush hx hb (by decide) dX1_init_49 ?_
  refine jn_newZ hx hb (hts (.arrayClass .boolean) (by decide +kernel)) hK hP hD hS hA (1001) (rfl) (by omega) (Nat.le_of_ble_eq_true rfl) (by show 11001 + 1001 ≤ 13000; omega) dX1_init_52 (fun q_7 H hP hD hS => ?_)
  refine W.widen (k := 7) (n := 12002) (by omega) (by omega) ?_
  have hP : va_P D jcl [(h, .inr (1, [.ref q_1, .ref q_2, .ref q_3, .ref q_4, .ref q_5, .ref q_6, .null, .int (jI 0), .int (jI 0), .int (jI 0), .int (jI 0), .int (jI 0)])), (q_1, .inl (g.1, n, .inl (aI (fun _ => 0)))), (q_2, .inl (g.1, n, .inl (aI (fun _ => 0)))), (q_3, .inl (g.1, n, .inl (aI (fun _ => 0)))), (q_4, .inl (g.1, n, .inl (aI (fun _ => 0)))), (q_5, .inl (g.1, n, .inl (aI (fun _ => 0)))), (q_6, .inl (g.1, 1001, .inl (aI (fun _ => 0)))), (q_7, .inl (g.2.2, 1001, .inl (aI (fun _ => 0))))] H := hP
  have hD : va_D A [(h, .inr (1, [.ref q_1, .ref q_2, .ref q_3, .ref q_4, .ref q_5, .ref q_6, .null, .int (jI 0), .int (jI 0), .int (jI 0), .int (jI 0), .int (jI 0)])), (q_1, .inl (g.1, n, .inl (aI (fun _ => 0)))), (q_2, .inl (g.1, n, .inl (aI (fun _ => 0)))), (q_3, .inl (g.1, n, .inl (aI (fun _ => 0)))), (q_4, .inl (g.1, n, .inl (aI (fun _ => 0)))), (q_5, .inl (g.1, n, .inl (aI (fun _ => 0)))), (q_6, .inl (g.1, 1001, .inl (aI (fun _ => 0)))), (q_7, .inl (g.2.2, 1001, .inl (aI (fun _ => 0))))] := hD
  refine va_putF (D := D) (ci := 1) (v := .ref q_7) (ty := .array .boolean) (C := RX1) (T := TX1) (N := 12) hx hb hts inX1 tyX1 tyX1_ok nmX1 hown hK hP hD hS 0 rfl rfl 6 (by decide) f30 (fun _ h9 => h9) rfl hin rfl (by decide +kernel) rfl rfl (Nat.le_of_ble_eq_true rfl) dX1_init_54 (fun H locs hP hD hS => ?_)
  have hP : va_P D jcl [(h, .inr (1, [.ref q_1, .ref q_2, .ref q_3, .ref q_4, .ref q_5, .ref q_6, .ref q_7, .int (jI 0), .int (jI 0), .int (jI 0), .int (jI 0), .int (jI 0)])), (q_1, .inl (g.1, n, .inl (aI (fun _ => 0)))), (q_2, .inl (g.1, n, .inl (aI (fun _ => 0)))), (q_3, .inl (g.1, n, .inl (aI (fun _ => 0)))), (q_4, .inl (g.1, n, .inl (aI (fun _ => 0)))), (q_5, .inl (g.1, n, .inl (aI (fun _ => 0)))), (q_6, .inl (g.1, 1001, .inl (aI (fun _ => 0)))), (q_7, .inl (g.2.2, 1001, .inl (aI (fun _ => 0))))] H := hP
  have hD : va_D A [(h, .inr (1, [.ref q_1, .ref q_2, .ref q_3, .ref q_4, .ref q_5, .ref q_6, .ref q_7, .int (jI 0), .int (jI 0), .int (jI 0), .int (jI 0), .int (jI 0)])), (q_1, .inl (g.1, n, .inl (aI (fun _ => 0)))), (q_2, .inl (g.1, n, .inl (aI (fun _ => 0)))), (q_3, .inl (g.1, n, .inl (aI (fun _ => 0)))), (q_4, .inl (g.1, n, .inl (aI (fun _ => 0)))), (q_5, .inl (g.1, n, .inl (aI (fun _ => 0)))), (q_6, .inl (g.1, 1001, .inl (aI (fun _ => 0)))), (q_7, .inl (g.2.2, 1001, .inl (aI (fun _ => 0))))] := hD
  exact hret (q_1, q_2, q_3, q_4, q_5, q_6, q_7) _ _ _ _ _ _ (trivial) (hP.sub [0, 1, 2, 3, 4, 5, 6, 7] rfl) (hD.sub [0, 1, 2, 3, 4, 5, 6, 7] (by decide) rfl) hS dX1_init_57 (by omega) (by omega)

set_option maxHeartbeats 4000000 in
set_option maxRecDepth 100000 in
/-- Grid() -/
theorem tX2_init (l : Launch) (D : va_G) (g : ClassId × ClassId × ClassId) (h : Nat)  : jN l D g yX2_init wsX2_init 1 30 1 50 [.ref h] [(h, .inr (2, [.null, .int (jI 0), .int (jI 0), .int (jI 0), .int (jI 0), .int (jI 0)]))] (S := Nat) (fun _ => True) (fun u => [(h, .inr (2, [.ref u, .int (jI 0), .int (jI 0), .int (jI 0), .int (jI 0), .int (jI 0)])), (u, .inl (g.2.1, 50, .inr (.inl (aW (fun _ => jL 0)))))]) := by
  refine jN_of (cc := cX2_init) (maxL := 1) (by decide) rfl rfl (Nat.le_of_ble_eq_true rfl) ?_
  intro p e s m args below meth c Q A hx hb hml hts hown hK hA hin hret ls hl hP hD
  have hS : va_S A s.heap s.heap [] := va_S.rf
  have hown : s.vm.findClass RX2 = some m.cls := hown
  have f11 := hts (.fieldLink RX2 11 "AntennaFill$Grid" "closed" "[J") (by decide +kernel)
  have inX2 : ∀ w ∈ wsX20, w ∈ wsX2_init := by decide +kernel
  have hl : lv_has ls 1 [(0, .ref h)] := hl
  refine lv_aload_n hx hb dX2_init_0 rfl (lv_at hl 0 rfl) ?_
  refine W.objInit hx hb hown (hts (.methodLink RX2 3 objectInit) (by decide +kernel)) (hts (.instanceMethod objectInit) (by decide +kernel)) (hts _ (List.mem_of_getElem? (i := 3) rfl)) rfl (by rw [hml]; exact hl.1) rfl dX2_init_1 (Nat.le_of_ble_eq_true rfl) (Nat.le_of_ble_eq_true rfl) ?_
  refine W.eq (g2 := F0 m 4 ls []) rfl ?_
  refine lv_aload_n hx hb dX2_init_4 rfl (lv_at hl 0 rfl) ?_
  refine jv_bipush hx hb (by decide) dX2_init_5 ?_
  refine jn_newL hx hb (hts (.arrayClass .long) (by decide +kernel)) hK hP hD hS hA (50) (rfl) (by omega) (Nat.le_of_ble_eq_true rfl) (by show 0 + 50 ≤ 50; omega) dX2_init_7 (fun q_1 H hP hD hS => ?_)
  refine W.widen (k := 1) (n := 50) (by omega) (by omega) ?_
  have hP : va_P D jcl [(h, .inr (2, [.null, .int (jI 0), .int (jI 0), .int (jI 0), .int (jI 0), .int (jI 0)])), (q_1, .inl (g.2.1, 50, .inr (.inl (aL (fun _ => 0)))))] H := hP
  have hD : va_D A [(h, .inr (2, [.null, .int (jI 0), .int (jI 0), .int (jI 0), .int (jI 0), .int (jI 0)])), (q_1, .inl (g.2.1, 50, .inr (.inl (aL (fun _ => 0)))))] := hD
  refine va_putF (D := D) (ci := 2) (v := .ref q_1) (ty := .array .long) (C := RX2) (T := TX2) (N := 6) hx hb hts inX2 tyX2 tyX2_ok nmX2 hown hK hP hD hS 0 rfl rfl 0 (by decide) f11 (fun _ h9 => h9) rfl hin rfl (by decide +kernel) rfl rfl (Nat.le_of_ble_eq_true rfl) dX2_init_9 (fun H locs hP hD hS => ?_)
  have hP : va_P D jcl [(h, .inr (2, [.ref q_1, .int (jI 0), .int (jI 0), .int (jI 0), .int (jI 0), .int (jI 0)])), (q_1, .inl (g.2.1, 50, .inr (.inl (aL (fun _ => 0)))))] H := hP
  have hD : va_D A [(h, .inr (2, [.ref q_1, .int (jI 0), .int (jI 0), .int (jI 0), .int (jI 0), .int (jI 0)])), (q_1, .inl (g.2.1, 50, .inr (.inl (aL (fun _ => 0)))))] := hD
  exact hret q_1 _ _ _ _ _ _ (trivial) (hP.sub [0, 1] rfl) (hD.sub [0, 1] (by decide) rfl) hS dX2_init_12 (by omega) (by omega)

set_option maxHeartbeats 4000000 in
set_option maxRecDepth 100000 in
/-- Sites() -/
theorem tX3_init (l : Launch) (D : va_G) (g : ClassId × ClassId × ClassId) (h : Nat)  : jN l D g yX3_init wsX3_init 1 30 1 16000 [.ref h] [(h, .inr (3, [.null, .int (jI 0)]))] (S := Nat) (fun _ => True) (fun u => [(h, .inr (3, [.ref u, .int (jI 0)])), (u, .inl (g.2.1, 16000, .inr (.inl (aW (fun _ => jL 0)))))]) := by
  refine jN_of (cc := cX3_init) (maxL := 1) (by decide) rfl rfl (Nat.le_of_ble_eq_true rfl) ?_
  intro p e s m args below meth c Q A hx hb hml hts hown hK hA hin hret ls hl hP hD
  have hS : va_S A s.heap s.heap [] := va_S.rf
  have hown : s.vm.findClass RX3 = some m.cls := hown
  have f11 := hts (.fieldLink RX3 11 "AntennaFill$Sites" "closed" "[J") (by decide +kernel)
  have inX3 : ∀ w ∈ wsX30, w ∈ wsX3_init := by decide +kernel
  have hl : lv_has ls 1 [(0, .ref h)] := hl
  refine lv_aload_n hx hb dX3_init_0 rfl (lv_at hl 0 rfl) ?_
  refine W.objInit hx hb hown (hts (.methodLink RX3 3 objectInit) (by decide +kernel)) (hts (.instanceMethod objectInit) (by decide +kernel)) (hts _ (List.mem_of_getElem? (i := 3) rfl)) rfl (by rw [hml]; exact hl.1) rfl dX3_init_1 (Nat.le_of_ble_eq_true rfl) (Nat.le_of_ble_eq_true rfl) ?_
  refine W.eq (g2 := F0 m 4 ls []) rfl ?_
  refine lv_aload_n hx hb dX3_init_4 rfl (lv_at hl 0 rfl) ?_
  refine jv_sipush hx hb (by decide) dX3_init_5 ?_
  refine jn_newL hx hb (hts (.arrayClass .long) (by decide +kernel)) hK hP hD hS hA (16000) (rfl) (by omega) (Nat.le_of_ble_eq_true rfl) (by show 0 + 16000 ≤ 16000; omega) dX3_init_8 (fun q_1 H hP hD hS => ?_)
  refine W.widen (k := 1) (n := 16000) (by omega) (by omega) ?_
  have hP : va_P D jcl [(h, .inr (3, [.null, .int (jI 0)])), (q_1, .inl (g.2.1, 16000, .inr (.inl (aL (fun _ => 0)))))] H := hP
  have hD : va_D A [(h, .inr (3, [.null, .int (jI 0)])), (q_1, .inl (g.2.1, 16000, .inr (.inl (aL (fun _ => 0)))))] := hD
  refine va_putF (D := D) (ci := 3) (v := .ref q_1) (ty := .array .long) (C := RX3) (T := TX3) (N := 2) hx hb hts inX3 tyX3 tyX3_ok nmX3 hown hK hP hD hS 0 rfl rfl 0 (by decide) f11 (fun _ h9 => h9) rfl hin rfl (by decide +kernel) rfl rfl (Nat.le_of_ble_eq_true rfl) dX3_init_10 (fun H locs hP hD hS => ?_)
  have hP : va_P D jcl [(h, .inr (3, [.ref q_1, .int (jI 0)])), (q_1, .inl (g.2.1, 16000, .inr (.inl (aL (fun _ => 0)))))] H := hP
  have hD : va_D A [(h, .inr (3, [.ref q_1, .int (jI 0)])), (q_1, .inl (g.2.1, 16000, .inr (.inl (aL (fun _ => 0)))))] := hD
  exact hret q_1 _ _ _ _ _ _ (trivial) (hP.sub [0, 1] rfl) (hD.sub [0, 1] (by decide) rfl) hS dX3_init_13 (by omega) (by omega)
