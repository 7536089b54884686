set_option maxHeartbeats 4000000 in
set_option maxRecDepth 100000 in
/-- checkIndex -/
theorem tX4_checkIndex (l : Launch) (hfl : l.stackTraces = false) (D : va_G) (g : ClassId × ClassId × ClassId) (i9 : Int) (n9 : Int) (hr : rI i9 ∧ rI n9) : jXv l D g yX4_checkIndex wsX4_checkIndex 6 82 1 6 [.int (jI i9), .int (jI n9)] [] (S := Unit) (fun _ : Unit => 0 ≤ i9 ∧ i9 < n9) (fun _ => []) (fun E => E = xI ∧ ¬ (0 ≤ i9 ∧ i9 < n9)) := by
  refine jXv_of (cc := cX4_checkIndex) (maxL := 2) hfl (by decide) rfl rfl (Nat.le_of_ble_eq_true rfl) (by decide) (by decide) ?_
  intro p e s m args below meth c Q A hx hb hml hts hown hK hA hE hret hthr hprop ls hl hP hD
  have hS : va_S A s.heap s.heap [] := va_S.rf
  have hown : s.vm.findClass RX4 = some m.cls := hown
  have hl : lv_has ls 2 [(0, .int (jI i9)), (1, .int (jI n9))] := hl
  refine lv_iload_n hx hb dX4_checkIndex_0 rfl (lv_at hl 0 rfl) ?_
  refine jv_if_lt (tgt := 9) hx hb ⟨by omega, by omega⟩ dX4_checkIndex_1 (by decide) (fun c1 => ?_) (fun c1 => ?_)
  · skip
    exact hthr 0 7 _ _ _ _ _ _ _ _ _ _ _ rfl rfl (by decide +kernel) (by first | exact ⟨rfl, by omega⟩ | omega) (hP.sub [] rfl) hS hl.1 dX4_checkIndex_9 dX4_checkIndex_12 dX4_checkIndex_13 dX4_checkIndex_15 dX4_checkIndex_18 (Nat.le_of_ble_eq_true rfl) (Nat.le_of_ble_eq_true rfl)
  · skip
    refine lv_iload_n hx hb dX4_checkIndex_4 rfl (lv_at hl 0 rfl) ?_
    refine lv_iload_n hx hb dX4_checkIndex_5 rfl (lv_at hl 1 rfl) ?_
    refine jv_icmp_lt (tgt := 19) hx hb ⟨by omega, by omega⟩ ⟨by omega, by omega⟩ dX4_checkIndex_6 (by decide) (fun c6 => ?_) (fun c6 => ?_)
    · skip
      exact hret  () _ _ _ _ _ _ (⟨by omega, by omega⟩) (hP.sub [] rfl) (hD.sub [] (by decide) rfl) hS dX4_checkIndex_19 (Nat.le_of_ble_eq_true rfl) (Nat.le_of_ble_eq_true rfl)
    · skip
      exact hthr 0 7 _ _ _ _ _ _ _ _ _ _ _ rfl rfl (by decide +kernel) (by first | exact ⟨rfl, by omega⟩ | omega) (hP.sub [] rfl) hS hl.1 dX4_checkIndex_9 dX4_checkIndex_12 dX4_checkIndex_13 dX4_checkIndex_15 dX4_checkIndex_18 (Nat.le_of_ble_eq_true rfl) (Nat.le_of_ble_eq_true rfl)

set_option maxHeartbeats 4000000 in
set_option maxRecDepth 100000 in
/-- checkRange -/
theorem tX4_checkRange (l : Launch) (hfl : l.stackTraces = false) (D : va_G) (g : ClassId × ClassId × ClassId) (a9 : Int) (b9 : Int) (c9 : Int) (hr : rL a9 ∧ rL b9 ∧ rL c9) : jXv l D g yX4_checkRange wsX4_checkRange 6 82 1 6 [.long (jL a9), .long (jL b9), .long (jL c9)] [] (S := Unit) (fun _ : Unit => b9 ≤ a9 ∧ a9 ≤ c9) (fun _ => []) (fun E => E = xA ∧ ¬ (b9 ≤ a9 ∧ a9 ≤ c9)) := by
  refine jXv_of (cc := cX4_checkRange) (maxL := 6) hfl (by decide) rfl rfl (Nat.le_of_ble_eq_true rfl) (by decide) (by decide) ?_
  intro p e s m args below meth c Q A hx hb hml hts hown hK hA hE hret hthr hprop ls hl hP hD
  have hS : va_S A s.heap s.heap [] := va_S.rf
  have hown : s.vm.findClass RX4 = some m.cls := hown
  have hl : lv_has ls 6 [(0, .long (jL a9)), (2, .long (jL b9)), (4, .long (jL c9))] := hl
  refine lv_lload_n hx hb dX4_checkRange_0 rfl (lv_at hl 0 rfl) ?_
  refine lv_lload_n hx hb dX4_checkRange_1 rfl (lv_at hl 1 rfl) ?_
  refine jv_lcmp_lt (tgt := 13) hx hb ⟨by omega, by omega⟩ ⟨by omega, by omega⟩ dX4_checkRange_2 dX4_checkRange_3 (by decide) (fun c2 => ?_) (fun c2 => ?_)
  · skip
    exact hthr 2 8 _ _ _ _ _ _ _ _ _ _ _ rfl rfl (by decide +kernel) (by first | exact ⟨rfl, by omega⟩ | omega) (hP.sub [] rfl) hS hl.1 dX4_checkRange_13 dX4_checkRange_16 dX4_checkRange_17 dX4_checkRange_19 dX4_checkRange_22 (Nat.le_of_ble_eq_true rfl) (Nat.le_of_ble_eq_true rfl)
  · skip
    refine lv_lload_n hx hb dX4_checkRange_6 rfl (lv_at hl 0 rfl) ?_
    refine lv_lload hx hb dX4_checkRange_7 (lv_at hl 2 rfl) ?_
    refine jv_lcmp_le (tgt := 23) hx hb ⟨by omega, by omega⟩ ⟨by omega, by omega⟩ dX4_checkRange_9 dX4_checkRange_10 (by decide) (fun c9 => ?_) (fun c9 => ?_)
    · skip
      exact hret  () _ _ _ _ _ _ (⟨by omega, by omega⟩) (hP.sub [] rfl) (hD.sub [] (by decide) rfl) hS dX4_checkRange_23 (Nat.le_of_ble_eq_true rfl) (Nat.le_of_ble_eq_true rfl)
    · skip
      exact hthr 2 8 _ _ _ _ _ _ _ _ _ _ _ rfl rfl (by decide +kernel) (by first | exact ⟨rfl, by omega⟩ | omega) (hP.sub [] rfl) hS hl.1 dX4_checkRange_13 dX4_checkRange_16 dX4_checkRange_17 dX4_checkRange_19 dX4_checkRange_22 (Nat.le_of_ble_eq_true rfl) (Nat.le_of_ble_eq_true rfl)

set_option maxHeartbeats 4000000 in
set_option maxRecDepth 100000 in
/-- checkArea -/
theorem tX4_checkArea (l : Launch) (hfl : l.stackTraces = false) (D : va_G) (g : ClassId × ClassId × ClassId) (a9 : Int) (hr : rL a9) : jXv l D g yX4_checkArea wsX4_checkArea 7 110 1 6 [.long (jL a9)] [] (S := Unit) (fun _ : Unit => 1 ≤ a9 ∧ a9 ≤ 1000000) (fun _ => []) (fun E => E = xA ∧ ¬ (1 ≤ a9 ∧ a9 ≤ 1000000)) := by
  refine jXv_of (cc := cX4_checkArea) (maxL := 2) hfl (by decide) rfl rfl (Nat.le_of_ble_eq_true rfl) (by decide) (by decide) ?_
  intro p e s m args below meth c Q A hx hb hml hts hown hK hA hE hret hthr hprop ls hl hP hD
  have hS : va_S A s.heap s.heap [] := va_S.rf
  have hown : s.vm.findClass RX4 = some m.cls := hown
  have k164 := hts (.constantLong RX4 164 (1000000)) (by decide +kernel)
  have hl : lv_has ls 2 [(0, .long (jL a9))] := hl
  refine lv_lload_n hx hb dX4_checkArea_0 rfl (lv_at hl 0 rfl) ?_
  refine jv_lconst1 hx hb dX4_checkArea_1 ?_
  refine jv_ldc2 (n := 1000000) hx hb (by decide) hown k164 dX4_checkArea_2 ?_
  refine jxc_Sv (As := [.long (jL a9), .long (jL 1), .long (jL 1000000)]) (rest := []) (wq := []) ⟨hx, hb, hml, hown, hts⟩ (tX4_checkRange l hfl D g a9 1 1000000 (⟨hr, ⟨by decide, by decide⟩, ⟨by decide, by decide⟩⟩)) (va_cwS 3 hts gX4_checkArea_X4_checkRange rfl rfl rfl (by decide +kernel) ⟨Nat.le_of_ble_eq_true rfl, Nat.le_of_ble_eq_true rfl⟩) hK hP hD hS hA hE [] [] rfl rfl (by decide) (by decide) (by decide) rfl rfl hl.1 (Nat.le_of_ble_eq_true rfl) dX4_checkArea_5 ⟨Nat.le_of_ble_eq_true rfl, Nat.le_of_ble_eq_true rfl⟩ (fun E ce q9 H locs hxE hP hD hS hce hcv hcl => hprop E ce q9 _ _ _ _ _ _ _ (hxE) (hP.sub [] rfl) hS hce hcv hcl (Nat.le_of_ble_eq_true rfl) (Nat.le_of_ble_eq_true rfl)) (fun u H locs hu hP hD hS => ?_)
  have hu : 1 ≤ a9 ∧ a9 ≤ 1000000 := hu
  have hu9 := hu
  have hP : va_P D jcl [] H := hP
  have hD : va_D A [] := hD
  exact hret  () _ _ _ _ _ _ (hu9) (hP.sub [] rfl) (hD.sub [] (by decide) rfl) hS dX4_checkArea_8 (Nat.le_of_ble_eq_true rfl) (Nat.le_of_ble_eq_true rfl)

set_option maxHeartbeats 4000000 in
set_option maxRecDepth 100000 in
/-- checkNet -/
theorem tX4_checkNet (l : Launch) (hfl : l.stackTraces = false) (D : va_G) (g : ClassId × ClassId × ClassId) (h : Nat) (ad : Nat → Nat) (ly : Int) (nt : Int) (td : Int) (tc : Int) (i9 : Int) (hr : rI i9 ∧ rI nt) : jXv l D g yX4_checkNet wsX4_checkNet 7 110 1 6 [.ref h, .int (jI i9)] [(h, .inr (4, [.int (jI ly), .int (jI nt), .ref (ad 2), .ref (ad 3), .ref (ad 4), .ref (ad 5), .ref (ad 6), .int (jI td), .ref (ad 8), .ref (ad 9), .ref (ad 10), .ref (ad 11), .ref (ad 12), .ref (ad 13), .ref (ad 14), .int (jI tc), .ref (ad 16), .ref (ad 17), .ref (ad 18)]))] (S := Unit) (fun _ : Unit => 0 ≤ i9 ∧ i9 < nt) (fun _ => [(h, .inr (4, [.int (jI ly), .int (jI nt), .ref (ad 2), .ref (ad 3), .ref (ad 4), .ref (ad 5), .ref (ad 6), .int (jI td), .ref (ad 8), .ref (ad 9), .ref (ad 10), .ref (ad 11), .ref (ad 12), .ref (ad 13), .ref (ad 14), .int (jI tc), .ref (ad 16), .ref (ad 17), .ref (ad 18)]))]) (fun E => E = xI ∧ ¬ (0 ≤ i9 ∧ i9 < nt)) := by
  refine jXv_of (cc := cX4_checkNet) (maxL := 2) hfl (by decide) rfl rfl (Nat.le_of_ble_eq_true rfl) (by decide) (by decide) ?_
  intro p e s m args below meth c Q A hx hb hml hts hown hK hA hE hret hthr hprop ls hl hP hD
  have hS : va_S A s.heap s.heap [] := va_S.rf
  have hown : s.vm.findClass RX4 = some m.cls := hown
  have f87 := hts (.fieldLink RX4 87 "AntennaFill" "nets" "I") (by decide +kernel)
  have inX4 : ∀ w ∈ wsX40, w ∈ wsX4_checkNet := by decide +kernel
  have hl : lv_has ls 2 [(0, .ref h), (1, .int (jI i9))] := hl
  refine lv_iload_n hx hb dX4_checkNet_0 rfl (lv_at hl 1 rfl) ?_
  refine lv_aload_n hx hb dX4_checkNet_1 rfl (lv_at hl 0 rfl) ?_
  refine va_get (D := D) (ci := 4) (v := .int (jI nt)) (C := RX4) (T := TX4) (N := 19) hx hb hts inX4 hown hK hP 0 rfl rfl 1 (by decide) f87 (fun _ h9 => h9) rfl dX4_checkNet_2 ?_
  refine jxc_Sv (As := [.int (jI i9), .int (jI nt)]) (rest := []) (wq := [(h, .inr (4, [.int (jI ly), .int (jI nt), .ref (ad 2), .ref (ad 3), .ref (ad 4), .ref (ad 5), .ref (ad 6), .int (jI td), .ref (ad 8), .ref (ad 9), .ref (ad 10), .ref (ad 11), .ref (ad 12), .ref (ad 13), .ref (ad 14), .int (jI tc), .ref (ad 16), .ref (ad 17), .ref (ad 18)]))]) ⟨hx, hb, hml, hown, hts⟩ (tX4_checkIndex l hfl D g i9 nt (hr)) (va_cwS 2 hts gX4_checkNet_X4_checkIndex rfl rfl rfl (by decide +kernel) ⟨Nat.le_of_ble_eq_true rfl, Nat.le_of_ble_eq_true rfl⟩) hK hP hD hS hA hE [] [0] rfl rfl (by decide) (by decide) (by decide) rfl rfl hl.1 (Nat.le_of_ble_eq_true rfl) dX4_checkNet_5 ⟨Nat.le_of_ble_eq_true rfl, Nat.le_of_ble_eq_true rfl⟩ (fun E ce q9 H locs hxE hP hD hS hce hcv hcl => hprop E ce q9 _ _ _ _ _ _ _ (hxE) (hP.sub [0] rfl) hS hce hcv hcl (Nat.le_of_ble_eq_true rfl) (Nat.le_of_ble_eq_true rfl)) (fun u H locs hu hP hD hS => ?_)
  have hu : 0 ≤ i9 ∧ i9 < nt := hu
  have hu9 := hu
  have hP : va_P D jcl [(h, .inr (4, [.int (jI ly), .int (jI nt), .ref (ad 2), .ref (ad 3), .ref (ad 4), .ref (ad 5), .ref (ad 6), .int (jI td), .ref (ad 8), .ref (ad 9), .ref (ad 10), .ref (ad 11), .ref (ad 12), .ref (ad 13), .ref (ad 14), .int (jI tc), .ref (ad 16), .ref (ad 17), .ref (ad 18)]))] H := hP
  have hD : va_D A [(h, .inr (4, [.int (jI ly), .int (jI nt), .ref (ad 2), .ref (ad 3), .ref (ad 4), .ref (ad 5), .ref (ad 6), .int (jI td), .ref (ad 8), .ref (ad 9), .ref (ad 10), .ref (ad 11), .ref (ad 12), .ref (ad 13), .ref (ad 14), .int (jI tc), .ref (ad 16), .ref (ad 17), .ref (ad 18)]))] := hD
  exact hret  () _ _ _ _ _ _ (hu9) (hP.sub [0] rfl) (hD.sub [0] (by decide) rfl) hS dX4_checkNet_8 (Nat.le_of_ble_eq_true rfl) (Nat.le_of_ble_eq_true rfl)

set_option maxHeartbeats 4000000 in
set_option maxRecDepth 100000 in
/-- checkLayer -/
theorem tX4_checkLayer (l : Launch) (hfl : l.stackTraces = false) (D : va_G) (g : ClassId × ClassId × ClassId) (h : Nat) (ad : Nat → Nat) (ly : Int) (nt : Int) (td : Int) (tc : Int) (i9 : Int) (hr : rI i9 ∧ rI ly) : jXv l D g yX4_checkLayer wsX4_checkLayer 7 110 1 6 [.ref h, .int (jI i9)] [(h, .inr (4, [.int (jI ly), .int (jI nt), .ref (ad 2), .ref (ad 3), .ref (ad 4), .ref (ad 5), .ref (ad 6), .int (jI td), .ref (ad 8), .ref (ad 9), .ref (ad 10), .ref (ad 11), .ref (ad 12), .ref (ad 13), .ref (ad 14), .int (jI tc), .ref (ad 16), .ref (ad 17), .ref (ad 18)]))] (S := Unit) (fun _ : Unit => 0 ≤ i9 ∧ i9 < ly) (fun _ => [(h, .inr (4, [.int (jI ly), .int (jI nt), .ref (ad 2), .ref (ad 3), .ref (ad 4), .ref (ad 5), .ref (ad 6), .int (jI td), .ref (ad 8), .ref (ad 9), .ref (ad 10), .ref (ad 11), .ref (ad 12), .ref (ad 13), .ref (ad 14), .int (jI tc), .ref (ad 16), .ref (ad 17), .ref (ad 18)]))]) (fun E => E = xI ∧ ¬ (0 ≤ i9 ∧ i9 < ly)) := by
  refine jXv_of (cc := cX4_checkLayer) (maxL := 2) hfl (by decide) rfl rfl (Nat.le_of_ble_eq_true rfl) (by decide) (by decide) ?_
  intro p e s m args below meth c Q A hx hb hml hts hown hK hA hE hret hthr hprop ls hl hP hD
  have hS : va_S A s.heap s.heap [] := va_S.rf
  have hown : s.vm.findClass RX4 = some m.cls := hown
  have f18 := hts (.fieldLink RX4 18 "AntennaFill" "layers" "I") (by decide +kernel)
  have inX4 : ∀ w ∈ wsX40, w ∈ wsX4_checkLayer := by decide +kernel
  have hl : lv_has ls 2 [(0, .ref h), (1, .int (jI i9))] := hl
  refine lv_iload_n hx hb dX4_checkLayer_0 rfl (lv_at hl 1 rfl) ?_
  refine lv_aload_n hx hb dX4_checkLayer_1 rfl (lv_at hl 0 rfl) ?_
  refine va_get (D := D) (ci := 4) (v := .int (jI ly)) (C := RX4) (T := TX4) (N := 19) hx hb hts inX4 hown hK hP 0 rfl rfl 0 (by decide) f18 (fun _ h9 => h9) rfl dX4_checkLayer_2 ?_
  refine jxc_Sv (As := [.int (jI i9), .int (jI ly)]) (rest := []) (wq := [(h, .inr (4, [.int (jI ly), .int (jI nt), .ref (ad 2), .ref (ad 3), .ref (ad 4), .ref (ad 5), .ref (ad 6), .int (jI td), .ref (ad 8), .ref (ad 9), .ref (ad 10), .ref (ad 11), .ref (ad 12), .ref (ad 13), .ref (ad 14), .int (jI tc), .ref (ad 16), .ref (ad 17), .ref (ad 18)]))]) ⟨hx, hb, hml, hown, hts⟩ (tX4_checkIndex l hfl D g i9 ly (hr)) (va_cwS 2 hts gX4_checkLayer_X4_checkIndex rfl rfl rfl (by decide +kernel) ⟨Nat.le_of_ble_eq_true rfl, Nat.le_of_ble_eq_true rfl⟩) hK hP hD hS hA hE [] [0] rfl rfl (by decide) (by decide) (by decide) rfl rfl hl.1 (Nat.le_of_ble_eq_true rfl) dX4_checkLayer_5 ⟨Nat.le_of_ble_eq_true rfl, Nat.le_of_ble_eq_true rfl⟩ (fun E ce q9 H locs hxE hP hD hS hce hcv hcl => hprop E ce q9 _ _ _ _ _ _ _ (hxE) (hP.sub [0] rfl) hS hce hcv hcl (Nat.le_of_ble_eq_true rfl) (Nat.le_of_ble_eq_true rfl)) (fun u H locs hu hP hD hS => ?_)
  have hu : 0 ≤ i9 ∧ i9 < ly := hu
  have hu9 := hu
  have hP : va_P D jcl [(h, .inr (4, [.int (jI ly), .int (jI nt), .ref (ad 2), .ref (ad 3), .ref (ad 4), .ref (ad 5), .ref (ad 6), .int (jI td), .ref (ad 8), .ref (ad 9), .ref (ad 10), .ref (ad 11), .ref (ad 12), .ref (ad 13), .ref (ad 14), .int (jI tc), .ref (ad 16), .ref (ad 17), .ref (ad 18)]))] H := hP
  have hD : va_D A [(h, .inr (4, [.int (jI ly), .int (jI nt), .ref (ad 2), .ref (ad 3), .ref (ad 4), .ref (ad 5), .ref (ad 6), .int (jI td), .ref (ad 8), .ref (ad 9), .ref (ad 10), .ref (ad 11), .ref (ad 12), .ref (ad 13), .ref (ad 14), .int (jI tc), .ref (ad 16), .ref (ad 17), .ref (ad 18)]))] := hD
  exact hret  () _ _ _ _ _ _ (hu9) (hP.sub [0] rfl) (hD.sub [0] (by decide) rfl) hS dX4_checkLayer_8 (Nat.le_of_ble_eq_true rfl) (Nat.le_of_ble_eq_true rfl)

set_option maxHeartbeats 4000000 in
set_option maxRecDepth 100000 in
/-- net -/
theorem tX4_net (l : Launch) (hfl : l.stackTraces = false) (D : va_G) (g : ClassId × ClassId × ClassId) (h : Nat) (ad : Nat → Nat) (ly : Int) (nt : Int) (td : Int) (tc : Int) (hnt : 0 ≤ nt ∧ nt ≤ 40) : jXi l D g yX4_net wsX4_net 6 82 1 6 [.ref h] [(h, .inr (4, [.int (jI ly), .int (jI nt), .ref (ad 2), .ref (ad 3), .ref (ad 4), .ref (ad 5), .ref (ad 6), .int (jI td), .ref (ad 8), .ref (ad 9), .ref (ad 10), .ref (ad 11), .ref (ad 12), .ref (ad 13), .ref (ad 14), .int (jI tc), .ref (ad 16), .ref (ad 17), .ref (ad 18)]))] (S := Unit) (fun (z : Int) (_ : Unit) => nt < 40 ∧ z = nt) (fun _ => [(h, .inr (4, [.int (jI ly), .int (jI (nt + 1)), .ref (ad 2), .ref (ad 3), .ref (ad 4), .ref (ad 5), .ref (ad 6), .int (jI td), .ref (ad 8), .ref (ad 9), .ref (ad 10), .ref (ad 11), .ref (ad 12), .ref (ad 13), .ref (ad 14), .int (jI tc), .ref (ad 16), .ref (ad 17), .ref (ad 18)]))]) (fun E => E = xS ∧ 40 ≤ nt) := by
  refine jXi_of (cc := cX4_net) (maxL := 1) hfl (by decide) rfl rfl (Nat.le_of_ble_eq_true rfl) (by decide) (by decide) ?_
  intro p e s m args below meth c Q A hx hb hml hts hown hK hA hE hret hthr hprop ls hl hP hD
  have hS : va_S A s.heap s.heap [] := va_S.rf
  have hown : s.vm.findClass RX4 = some m.cls := hown
  have f87 := hts (.fieldLink RX4 87 "AntennaFill" "nets" "I") (by decide +kernel)
  have inX4 : ∀ w ∈ wsX40, w ∈ wsX4_net := by decide +kernel
  have hl : lv_has ls 1 [(0, .ref h)] := hl
  refine lv_aload_n hx hb dX4_net_0 rfl (lv_at hl 0 rfl) ?_
  refine va_get (D := D) (ci := 4) (v := .int (jI nt)) (C := RX4) (T := TX4) (N := 19) hx hb hts inX4 hown hK hP 0 rfl rfl 1 (by decide) f87 (fun _ h9 => h9) rfl dX4_net_1 ?_
  refine jv_bipush hx hb (by decide) dX4_net_4 ?_
  refine jv_icmp_lt (tgt := 19) hx hb ⟨by omega, by omega⟩ ⟨by decide, by decide⟩ dX4_net_6 (by decide) (fun c6 => ?_) (fun c6 => ?_)
  · skip
    refine lv_aload_n hx hb dX4_net_19 rfl (lv_at hl 0 rfl) ?_
    refine lv_dup hx hb dX4_net_20 rfl ?_
    refine va_get (D := D) (ci := 4) (v := .int (jI nt)) (C := RX4) (T := TX4) (N := 19) hx hb hts inX4 hown hK hP 0 rfl rfl 1 (by decide) f87 (fun _ h9 => h9) rfl dX4_net_21 ?_
    refine jv_iconst hx hb dX4_net_24 ?_
    refine jv_iadd hx hb dX4_net_25 ?_
    refine va_put (D := D) (ci := 4) (v := .int (jI (nt + 1))) (ty := .int) (C := RX4) (T := TX4) (N := 19) hx hb hts inX4 tyX4 tyX4_ok nmX4 hown hK hP hD hS 0 rfl rfl 1 (by decide) f87 (fun _ h9 => h9) rfl (by decide +kernel) rfl rfl (Nat.le_of_ble_eq_true rfl) dX4_net_26 (fun H locs hP hD hS => ?_)
    have hP : va_P D jcl [(h, .inr (4, [.int (jI ly), .int (jI (nt + 1)), .ref (ad 2), .ref (ad 3), .ref (ad 4), .ref (ad 5), .ref (ad 6), .int (jI td), .ref (ad 8), .ref (ad 9), .ref (ad 10), .ref (ad 11), .ref (ad 12), .ref (ad 13), .ref (ad 14), .int (jI tc), .ref (ad 16), .ref (ad 17), .ref (ad 18)]))] H := hP
    have hD : va_D A [(h, .inr (4, [.int (jI ly), .int (jI (nt + 1)), .ref (ad 2), .ref (ad 3), .ref (ad 4), .ref (ad 5), .ref (ad 6), .int (jI td), .ref (ad 8), .ref (ad 9), .ref (ad 10), .ref (ad 11), .ref (ad 12), .ref (ad 13), .ref (ad 14), .int (jI tc), .ref (ad 16), .ref (ad 17), .ref (ad 18)]))] := hD
    refine lv_aload_n hx hb dX4_net_29 rfl (lv_at hl 0 rfl) ?_
    refine va_get (D := D) (ci := 4) (v := .int (jI (nt + 1))) (C := RX4) (T := TX4) (N := 19) hx hb hts inX4 hown hK hP 0 rfl rfl 1 (by decide) f87 (fun _ h9 => h9) rfl dX4_net_30 ?_
    refine jv_iconst hx hb dX4_net_33 ?_
    refine jv_isub hx hb dX4_net_34 ?_
    exact hret ((nt + 1) - 1) () _ _ _ _ _ _ (⟨by omega, by omega⟩) (hP.sub [0] rfl) (hD.sub [0] (by decide) rfl) hS dX4_net_35 (Nat.le_of_ble_eq_true rfl) (Nat.le_of_ble_eq_true rfl)
  · skip
    exact hthr 1 0 _ _ _ _ _ _ _ _ _ _ _ rfl rfl (by decide +kernel) (by first | exact ⟨rfl, by omega⟩ | omega) (hP.sub [0] rfl) hS hl.1 dX4_net_9 dX4_net_12 dX4_net_13 dX4_net_15 dX4_net_18 (Nat.le_of_ble_eq_true rfl) (Nat.le_of_ble_eq_true rfl)
