set_option maxHeartbeats 4000000 in
set_option maxRecDepth 100000 in
/-- isNet -/
theorem tX5_isNet (l : Launch) (D : va_G) (g : ClassId × ClassId × ClassId) (hm : Nat) (md : Nat → Nat) (co : Int) (ly : Int) (nt : Int) (ns : Int) (nd : Int) (np : Int) (nq : Int) (tq : Int) (net : Int) (hr : rI net ∧ rI nt) : jMi l D g yX5_isNet wsX5_isNet 1 21 [.ref hm, .int (jI net)] [(hm, .inr (5, [.int (jI co), .int (jI ly), .int (jI nt), .ref (md 3), .int (jI ns), .ref (md 5), .ref (md 6), .ref (md 7), .int (jI nd), .ref (md 9), .ref (md 10), .ref (md 11), .int (jI np), .ref (md 13), .ref (md 14), .ref (md 15), .ref (md 16), .ref (md 17), .ref (md 18), .ref (md 19), .ref (md 20), .int (jI nq), .ref (md 22), .ref (md 23), .ref (md 24), .ref (md 25), .ref (md 26), .int (jI tq), .ref (md 28), .ref (md 29), .ref (md 30)]))] (S := Unit) (fun z (_ : Unit) => (z = 1 ∧ (0 ≤ net ∧ net < nt)) ∨ (z = 0 ∧ ¬ (0 ≤ net ∧ net < nt))) (fun _ => [(hm, .inr (5, [.int (jI co), .int (jI ly), .int (jI nt), .ref (md 3), .int (jI ns), .ref (md 5), .ref (md 6), .ref (md 7), .int (jI nd), .ref (md 9), .ref (md 10), .ref (md 11), .int (jI np), .ref (md 13), .ref (md 14), .ref (md 15), .ref (md 16), .ref (md 17), .ref (md 18), .ref (md 19), .ref (md 20), .int (jI nq), .ref (md 22), .ref (md 23), .ref (md 24), .ref (md 25), .ref (md 26), .int (jI tq), .ref (md 28), .ref (md 29), .ref (md 30)]))]) := by
  refine jMz_of (cc := cX5_isNet) (maxL := 2) (by decide) rfl (Nat.le_of_ble_eq_true rfl) ?_
  intro p e s m args below meth c Q A hx hb hml hts hown hK hA hret ls hl hP hD
  have hS : va_S A s.heap s.heap [] := va_S.rf
  have hown : s.vm.findClass RX5 = some m.cls := hown
  have f87 := hts (.fieldLink RX5 87 "AntennaFillModel" "nets" "I") (by decide +kernel)
  have inX5 : ∀ w ∈ wsX50, w ∈ wsX5_isNet := by decide +kernel
  have hl : lv_has ls 2 [(0, .ref hm), (1, .int (jI net))] := hl
  refine lv_iload_n hx hb dX5_isNet_0 rfl (lv_at hl 1 rfl) ?_
  refine jv_if_lt (tgt := 16) hx hb ⟨by omega, by omega⟩ dX5_isNet_1 (by decide) (fun c1 => ?_) (fun c1 => ?_)
  · skip
    refine jv_iconst hx hb dX5_isNet_16 ?_
    exact hret 0 () _ _ _ _ (by omega) (Or.inr ⟨rfl, by omega⟩) (hP.sub [0] rfl) (hD.sub [0] (by decide) rfl) hS dX5_isNet_17
  · skip
    refine lv_iload_n hx hb dX5_isNet_4 rfl (lv_at hl 1 rfl) ?_
    refine lv_aload_n hx hb dX5_isNet_5 rfl (lv_at hl 0 rfl) ?_
    refine va_get (D := D) (ci := 5) (v := .int (jI nt)) (C := RX5) (T := TX5) (N := 31) hx hb hts inX5 hown hK hP 0 rfl rfl 2 (by decide) f87 (fun _ h9 => h9) rfl dX5_isNet_6 ?_
    refine jv_icmp_ge (tgt := 16) hx hb ⟨by omega, by omega⟩ ⟨by omega, by omega⟩ dX5_isNet_9 (by decide) (fun c9 => ?_) (fun c9 => ?_)
    · skip
      refine jv_iconst hx hb dX5_isNet_16 ?_
      exact hret 0 () _ _ _ _ (by omega) (Or.inr ⟨rfl, by omega⟩) (hP.sub [0] rfl) (hD.sub [0] (by decide) rfl) hS dX5_isNet_17
    · skip
      refine jv_iconst hx hb dX5_isNet_12 ?_
      refine lv_goto (tgt := 17) hx hb dX5_isNet_13 (by decide) ?_
      exact hret 1 () _ _ _ _ (by omega) (Or.inl ⟨rfl, by omega⟩) (hP.sub [0] rfl) (hD.sub [0] (by decide) rfl) hS dX5_isNet_17

set_option maxHeartbeats 4000000 in
set_option maxRecDepth 100000 in
/-- isLayer -/
theorem tX5_isLayer (l : Launch) (D : va_G) (g : ClassId × ClassId × ClassId) (hm : Nat) (md : Nat → Nat) (co : Int) (ly : Int) (nt : Int) (ns : Int) (nd : Int) (np : Int) (nq : Int) (tq : Int) (layer : Int) (hr : rI ly ∧ rI layer) : jMi l D g yX5_isLayer wsX5_isLayer 1 21 [.ref hm, .int (jI layer)] [(hm, .inr (5, [.int (jI co), .int (jI ly), .int (jI nt), .ref (md 3), .int (jI ns), .ref (md 5), .ref (md 6), .ref (md 7), .int (jI nd), .ref (md 9), .ref (md 10), .ref (md 11), .int (jI np), .ref (md 13), .ref (md 14), .ref (md 15), .ref (md 16), .ref (md 17), .ref (md 18), .ref (md 19), .ref (md 20), .int (jI nq), .ref (md 22), .ref (md 23), .ref (md 24), .ref (md 25), .ref (md 26), .int (jI tq), .ref (md 28), .ref (md 29), .ref (md 30)]))] (S := Unit) (fun z (_ : Unit) => (z = 1 ∧ (0 ≤ layer ∧ layer < ly)) ∨ (z = 0 ∧ ¬ (0 ≤ layer ∧ layer < ly))) (fun _ => [(hm, .inr (5, [.int (jI co), .int (jI ly), .int (jI nt), .ref (md 3), .int (jI ns), .ref (md 5), .ref (md 6), .ref (md 7), .int (jI nd), .ref (md 9), .ref (md 10), .ref (md 11), .int (jI np), .ref (md 13), .ref (md 14), .ref (md 15), .ref (md 16), .ref (md 17), .ref (md 18), .ref (md 19), .ref (md 20), .int (jI nq), .ref (md 22), .ref (md 23), .ref (md 24), .ref (md 25), .ref (md 26), .int (jI tq), .ref (md 28), .ref (md 29), .ref (md 30)]))]) := by
  refine jMz_of (cc := cX5_isLayer) (maxL := 2) (by decide) rfl (Nat.le_of_ble_eq_true rfl) ?_
  intro p e s m args below meth c Q A hx hb hml hts hown hK hA hret ls hl hP hD
  have hS : va_S A s.heap s.heap [] := va_S.rf
  have hown : s.vm.findClass RX5 = some m.cls := hown
  have f80 := hts (.fieldLink RX5 80 "AntennaFillModel" "layers" "I") (by decide +kernel)
  have inX5 : ∀ w ∈ wsX50, w ∈ wsX5_isLayer := by decide +kernel
  have hl : lv_has ls 2 [(0, .ref hm), (1, .int (jI layer))] := hl
  refine lv_iload_n hx hb dX5_isLayer_0 rfl (lv_at hl 1 rfl) ?_
  refine jv_if_lt (tgt := 16) hx hb ⟨by omega, by omega⟩ dX5_isLayer_1 (by decide) (fun c1 => ?_) (fun c1 => ?_)
  · skip
    refine jv_iconst hx hb dX5_isLayer_16 ?_
    exact hret 0 () _ _ _ _ (by omega) (Or.inr ⟨rfl, by omega⟩) (hP.sub [0] rfl) (hD.sub [0] (by decide) rfl) hS dX5_isLayer_17
  · skip
    refine lv_iload_n hx hb dX5_isLayer_4 rfl (lv_at hl 1 rfl) ?_
    refine lv_aload_n hx hb dX5_isLayer_5 rfl (lv_at hl 0 rfl) ?_
    refine va_get (D := D) (ci := 5) (v := .int (jI ly)) (C := RX5) (T := TX5) (N := 31) hx hb hts inX5 hown hK hP 0 rfl rfl 1 (by decide) f80 (fun _ h9 => h9) rfl dX5_isLayer_6 ?_
    refine jv_icmp_ge (tgt := 16) hx hb ⟨by omega, by omega⟩ ⟨by omega, by omega⟩ dX5_isLayer_9 (by decide) (fun c9 => ?_) (fun c9 => ?_)
    · skip
      refine jv_iconst hx hb dX5_isLayer_16 ?_
      exact hret 0 () _ _ _ _ (by omega) (Or.inr ⟨rfl, by omega⟩) (hP.sub [0] rfl) (hD.sub [0] (by decide) rfl) hS dX5_isLayer_17
    · skip
      refine jv_iconst hx hb dX5_isLayer_12 ?_
      refine lv_goto (tgt := 17) hx hb dX5_isLayer_13 (by decide) ?_
      exact hret 1 () _ _ _ _ (by omega) (Or.inl ⟨rfl, by omega⟩) (hP.sub [0] rfl) (hD.sub [0] (by decide) rfl) hS dX5_isLayer_17

set_option maxHeartbeats 4000000 in
set_option maxRecDepth 100000 in
/-- isSide -/
theorem tX5_isSide (l : Launch) (D : va_G) (g : ClassId × ClassId × ClassId) (a9 : Int) (b9 : Int) (hr : rL a9 ∧ rL b9) : jMi l D g yX5_isSide wsX5_isSide 1 21 [.long (jL a9), .long (jL b9)] [] (S := Unit) (fun z (_ : Unit) => (z = 1 ∧ (0 ≤ a9 ∧ a9 < b9 ∧ b9 ≤ 1000)) ∨ (z = 0 ∧ ¬ (0 ≤ a9 ∧ a9 < b9 ∧ b9 ≤ 1000))) (fun _ => []) := by
  refine jMz_of (cc := cX5_isSide) (maxL := 4) (by decide) rfl (Nat.le_of_ble_eq_true rfl) ?_
  intro p e s m args below meth c Q A hx hb hml hts hown hK hA hret ls hl hP hD
  have hS : va_S A s.heap s.heap [] := va_S.rf
  have hown : s.vm.findClass RX5 = some m.cls := hown
  have k100 := hts (.constantLong RX5 100 (1000)) (by decide +kernel)
  have hl : lv_has ls 4 [(0, .long (jL a9)), (2, .long (jL b9))] := hl
  refine lv_lload_n hx hb dX5_isSide_0 rfl (lv_at hl 0 rfl) ?_
  refine jv_lconst0 hx hb dX5_isSide_1 ?_
  refine jv_lcmp_lt (tgt := 24) hx hb ⟨by omega, by omega⟩ ⟨by decide, by decide⟩ dX5_isSide_2 dX5_isSide_3 (by decide) (fun c2 => ?_) (fun c2 => ?_)
  · skip
    refine jv_iconst hx hb dX5_isSide_24 ?_
    exact hret 0 () _ _ _ _ (by omega) (Or.inr ⟨rfl, by omega⟩) (hP.sub [] rfl) (hD.sub [] (by decide) rfl) hS dX5_isSide_25
  · skip
    refine lv_lload_n hx hb dX5_isSide_6 rfl (lv_at hl 0 rfl) ?_
    refine lv_lload_n hx hb dX5_isSide_7 rfl (lv_at hl 1 rfl) ?_
    refine jv_lcmp_ge (tgt := 24) hx hb ⟨by omega, by omega⟩ ⟨by omega, by omega⟩ dX5_isSide_8 dX5_isSide_9 (by decide) (fun c8 => ?_) (fun c8 => ?_)
    · skip
      refine jv_iconst hx hb dX5_isSide_24 ?_
      exact hret 0 () _ _ _ _ (by omega) (Or.inr ⟨rfl, by omega⟩) (hP.sub [] rfl) (hD.sub [] (by decide) rfl) hS dX5_isSide_25
    · skip
      refine lv_lload_n hx hb dX5_isSide_12 rfl (lv_at hl 1 rfl) ?_
      refine jv_ldc2 (n := 1000) hx hb (by decide) hown k100 dX5_isSide_13 ?_
      refine jv_lcmp_gt (tgt := 24) hx hb ⟨by omega, by omega⟩ ⟨by decide, by decide⟩ dX5_isSide_16 dX5_isSide_17 (by decide) (fun c16 => ?_) (fun c16 => ?_)
      · skip
        refine jv_iconst hx hb dX5_isSide_24 ?_
        exact hret 0 () _ _ _ _ (by omega) (Or.inr ⟨rfl, by omega⟩) (hP.sub [] rfl) (hD.sub [] (by decide) rfl) hS dX5_isSide_25
      · skip
        refine jv_iconst hx hb dX5_isSide_20 ?_
        refine lv_goto (tgt := 25) hx hb dX5_isSide_21 (by decide) ?_
        exact hret 1 () _ _ _ _ (by omega) (Or.inl ⟨rfl, by omega⟩) (hP.sub [] rfl) (hD.sub [] (by decide) rfl) hS dX5_isSide_25

set_option maxHeartbeats 4000000 in
set_option maxRecDepth 100000 in
/-- net -/
theorem tX5_net (l : Launch) (D : va_G) (g : ClassId × ClassId × ClassId) (hm : Nat) (md : Nat → Nat) (co : Int) (ly : Int) (nt : Int) (ns : Int) (nd : Int) (np : Int) (nq : Int) (tq : Int) (hnt : 0 ≤ nt ∧ nt ≤ 40) : jMi l D g yX5_net wsX5_net 2 80 [.ref hm] [(hm, .inr (5, [.int (jI co), .int (jI ly), .int (jI nt), .ref (md 3), .int (jI ns), .ref (md 5), .ref (md 6), .ref (md 7), .int (jI nd), .ref (md 9), .ref (md 10), .ref (md 11), .int (jI np), .ref (md 13), .ref (md 14), .ref (md 15), .ref (md 16), .ref (md 17), .ref (md 18), .ref (md 19), .ref (md 20), .int (jI nq), .ref (md 22), .ref (md 23), .ref (md 24), .ref (md 25), .ref (md 26), .int (jI tq), .ref (md 28), .ref (md 29), .ref (md 30)]))] (S := Int × Int) (fun z u => (u.1 = 1 ∧ nt = 40 ∧ u.2 = nt) ∨ (u.1 = 0 ∧ nt < 40 ∧ u.2 = nt + 1 ∧ z = nt)) (fun u => [(hm, .inr (5, [.int (jI u.1), .int (jI ly), .int (jI u.2), .ref (md 3), .int (jI ns), .ref (md 5), .ref (md 6), .ref (md 7), .int (jI nd), .ref (md 9), .ref (md 10), .ref (md 11), .int (jI np), .ref (md 13), .ref (md 14), .ref (md 15), .ref (md 16), .ref (md 17), .ref (md 18), .ref (md 19), .ref (md 20), .int (jI nq), .ref (md 22), .ref (md 23), .ref (md 24), .ref (md 25), .ref (md 26), .int (jI tq), .ref (md 28), .ref (md 29), .ref (md 30)]))]) := by
  refine jMi_of (cc := cX5_net) (maxL := 1) (by decide) rfl (Nat.le_of_ble_eq_true rfl) ?_
  intro p e s m args below meth c Q A hx hb hml hts hown hK hA hret ls hl hP hD
  have hS : va_S A s.heap s.heap [] := va_S.rf
  have hown : s.vm.findClass RX5 = some m.cls := hown
  have f84 := hts (.fieldLink RX5 84 "AntennaFillModel" "code" "I") (by decide +kernel)
  have f87 := hts (.fieldLink RX5 87 "AntennaFillModel" "nets" "I") (by decide +kernel)
  have inX5 : ∀ w ∈ wsX50, w ∈ wsX5_net := by decide +kernel
  have hl : lv_has ls 1 [(0, .ref hm)] := hl
  have JC : ∀ (cv9 : Int), ((cv9 = 1 ∧ nt = 40) ∨ (cv9 = 0 ∧ nt ≠ 40)) → ∀ (H : Heap) (locs : List Loc) (ls : Array Slot), va_P D jcl [(hm, .inr (5, [.int (jI co), .int (jI ly), .int (jI nt), .ref (md 3), .int (jI ns), .ref (md 5), .ref (md 6), .ref (md 7), .int (jI nd), .ref (md 9), .ref (md 10), .ref (md 11), .int (jI np), .ref (md 13), .ref (md 14), .ref (md 15), .ref (md 16), .ref (md 17), .ref (md 18), .ref (md 19), .ref (md 20), .int (jI nq), .ref (md 22), .ref (md 23), .ref (md 24), .ref (md 25), .ref (md 26), .int (jI tq), .ref (md 28), .ref (md 29), .ref (md 30)]))] H → va_D A [(hm, .inr (5, [.int (jI co), .int (jI ly), .int (jI nt), .ref (md 3), .int (jI ns), .ref (md 5), .ref (md 6), .ref (md 7), .int (jI nd), .ref (md 9), .ref (md 10), .ref (md 11), .int (jI np), .ref (md 13), .ref (md 14), .ref (md 15), .ref (md 16), .ref (md 17), .ref (md 18), .ref (md 19), .ref (md 20), .int (jI nq), .ref (md 22), .ref (md 23), .ref (md 24), .ref (md 25), .ref (md 26), .int (jI tq), .ref (md 28), .ref (md 29), .ref (md 30)]))] → va_S A s.heap H locs → lv_has ls 1 [(0, .ref hm)] → W p l e (jR 2 80) s m args below meth c H locs 0 0 Q (F0 m 15 ls [.int (jI cv9), .ref hm]) := by
    intro cv9 hcv H locs ls hP hD hS hl
    refine va_put (D := D) (ci := 5) (v := .int (jI cv9)) (ty := .int) (C := RX5) (T := TX5) (N := 31) hx hb hts inX5 tyX5 tyX5_ok nmX5 hown hK hP hD hS 0 rfl rfl 0 (by decide) f84 (fun _ h9 => h9) rfl (by decide +kernel) rfl rfl (Nat.le_of_ble_eq_true rfl) dX5_net_15 (fun H locs hP hD hS => ?_)
    have hP : va_P D jcl [(hm, .inr (5, [.int (jI cv9), .int (jI ly), .int (jI nt), .ref (md 3), .int (jI ns), .ref (md 5), .ref (md 6), .ref (md 7), .int (jI nd), .ref (md 9), .ref (md 10), .ref (md 11), .int (jI np), .ref (md 13), .ref (md 14), .ref (md 15), .ref (md 16), .ref (md 17), .ref (md 18), .ref (md 19), .ref (md 20), .int (jI nq), .ref (md 22), .ref (md 23), .ref (md 24), .ref (md 25), .ref (md 26), .int (jI tq), .ref (md 28), .ref (md 29), .ref (md 30)]))] H := hP
    have hD : va_D A [(hm, .inr (5, [.int (jI cv9), .int (jI ly), .int (jI nt), .ref (md 3), .int (jI ns), .ref (md 5), .ref (md 6), .ref (md 7), .int (jI nd), .ref (md 9), .ref (md 10), .ref (md 11), .int (jI np), .ref (md 13), .ref (md 14), .ref (md 15), .ref (md 16), .ref (md 17), .ref (md 18), .ref (md 19), .ref (md 20), .int (jI nq), .ref (md 22), .ref (md 23), .ref (md 24), .ref (md 25), .ref (md 26), .int (jI tq), .ref (md 28), .ref (md 29), .ref (md 30)]))] := hD
    refine lv_aload_n hx hb dX5_net_18 rfl (lv_at hl 0 rfl) ?_
    refine va_get (D := D) (ci := 5) (v := .int (jI cv9)) (C := RX5) (T := TX5) (N := 31) hx hb hts inX5 hown hK hP 0 rfl rfl 0 (by decide) f84 (fun _ h9 => h9) rfl dX5_net_19 ?_
    refine jv_if_le (tgt := 27) hx hb ⟨by omega, by omega⟩ dX5_net_22 (by decide) (fun c22 => ?_) (fun c22 => ?_)
    · skip
      refine lv_aload_n hx hb dX5_net_27 rfl (lv_at hl 0 rfl) ?_
      refine lv_dup hx hb dX5_net_28 rfl ?_
      refine va_get (D := D) (ci := 5) (v := .int (jI nt)) (C := RX5) (T := TX5) (N := 31) hx hb hts inX5 hown hK hP 0 rfl rfl 2 (by decide) f87 (fun _ h9 => h9) rfl dX5_net_29 ?_
      refine jv_iconst hx hb dX5_net_32 ?_
      refine jv_iadd hx hb dX5_net_33 ?_
      refine va_put (D := D) (ci := 5) (v := .int (jI (nt + 1))) (ty := .int) (C := RX5) (T := TX5) (N := 31) hx hb hts inX5 tyX5 tyX5_ok nmX5 hown hK hP hD hS 0 rfl rfl 2 (by decide) f87 (fun _ h9 => h9) rfl (by decide +kernel) rfl rfl (Nat.le_of_ble_eq_true rfl) dX5_net_34 (fun H locs hP hD hS => ?_)
      have hP : va_P D jcl [(hm, .inr (5, [.int (jI cv9), .int (jI ly), .int (jI (nt + 1)), .ref (md 3), .int (jI ns), .ref (md 5), .ref (md 6), .ref (md 7), .int (jI nd), .ref (md 9), .ref (md 10), .ref (md 11), .int (jI np), .ref (md 13), .ref (md 14), .ref (md 15), .ref (md 16), .ref (md 17), .ref (md 18), .ref (md 19), .ref (md 20), .int (jI nq), .ref (md 22), .ref (md 23), .ref (md 24), .ref (md 25), .ref (md 26), .int (jI tq), .ref (md 28), .ref (md 29), .ref (md 30)]))] H := hP
      have hD : va_D A [(hm, .inr (5, [.int (jI cv9), .int (jI ly), .int (jI (nt + 1)), .ref (md 3), .int (jI ns), .ref (md 5), .ref (md 6), .ref (md 7), .int (jI nd), .ref (md 9), .ref (md 10), .ref (md 11), .int (jI np), .ref (md 13), .ref (md 14), .ref (md 15), .ref (md 16), .ref (md 17), .ref (md 18), .ref (md 19), .ref (md 20), .int (jI nq), .ref (md 22), .ref (md 23), .ref (md 24), .ref (md 25), .ref (md 26), .int (jI tq), .ref (md 28), .ref (md 29), .ref (md 30)]))] := hD
      refine lv_aload_n hx hb dX5_net_37 rfl (lv_at hl 0 rfl) ?_
      refine va_get (D := D) (ci := 5) (v := .int (jI (nt + 1))) (C := RX5) (T := TX5) (N := 31) hx hb hts inX5 hown hK hP 0 rfl rfl 2 (by decide) f87 (fun _ h9 => h9) rfl dX5_net_38 ?_
      refine jv_iconst hx hb dX5_net_41 ?_
      refine jv_isub hx hb dX5_net_42 ?_
      exact hret ((nt + 1) - 1) (cv9, nt + 1) _ _ _ _ (Or.inr ⟨by show cv9 = 0; omega, by omega, rfl, by omega⟩) (hP.sub [0] rfl) (hD.sub [0] (by decide) rfl) hS dX5_net_43
    · skip
      refine jv_iconst hx hb dX5_net_25 ?_
      exact hret 0 (cv9, nt) _ _ _ _ (Or.inl ⟨by show cv9 = 1; omega, by omega, rfl⟩) (hP.sub [0] rfl) (hD.sub [0] (by decide) rfl) hS dX5_net_26
  refine lv_aload_n hx hb dX5_net_0 rfl (lv_at hl 0 rfl) ?_
  refine lv_aload_n hx hb dX5_net_1 rfl (lv_at hl 0 rfl) ?_
  refine va_get (D := D) (ci := 5) (v := .int (jI nt)) (C := RX5) (T := TX5) (N := 31) hx hb hts inX5 hown hK hP 0 rfl rfl 2 (by decide) f87 (fun _ h9 => h9) rfl dX5_net_2 ?_
  refine jv_bipush hx hb (by decide) dX5_net_5 ?_
  refine jv_icmp_ne (tgt := 14) hx hb ⟨by omega, by omega⟩ ⟨by decide, by decide⟩ dX5_net_7 (by decide) (fun c7 => ?_) (fun c7 => ?_)
  · skip
    refine jv_iconst hx hb dX5_net_14 ?_
    exact JC 0 (by omega) _ _ _ (hP.sub [0] rfl) (hD.sub [0] (by decide) rfl) hS (lv_sub hl [0] rfl)
  · skip
    refine jv_iconst hx hb dX5_net_10 ?_
    refine lv_goto (tgt := 15) hx hb dX5_net_11 (by decide) ?_
    exact JC 1 (by omega) _ _ _ (hP.sub [0] rfl) (hD.sub [0] (by decide) rfl) hS (lv_sub hl [0] rfl)

set_option maxHeartbeats 4000000 in
set_option maxRecDepth 100000 in
/-- gate -/
theorem tX5_gate (l : Launch) (D : va_G) (g : ClassId × ClassId × ClassId) (hm : Nat) (md : Nat → Nat) (co : Int) (ly : Int) (nt : Int) (ns : Int) (nd : Int) (np : Int) (nq : Int) (tq : Int) (ga : Int → Int) (net : Int) (v9 : Int) (hnt : 0 ≤ nt ∧ nt ≤ 40) (hri : rI net ∧ rL v9) (hga : ∀ k, 0 ≤ ga k ∧ ga k ≤ 1000000000) : jMl l D g yX5_gate wsX5_gate 2 80 [.ref hm, .int (jI net), .long (jL v9)] [(hm, .inr (5, [.int (jI co), .int (jI ly), .int (jI nt), .ref (md 3), .int (jI ns), .ref (md 5), .ref (md 6), .ref (md 7), .int (jI nd), .ref (md 9), .ref (md 10), .ref (md 11), .int (jI np), .ref (md 13), .ref (md 14), .ref (md 15), .ref (md 16), .ref (md 17), .ref (md 18), .ref (md 19), .ref (md 20), .int (jI nq), .ref (md 22), .ref (md 23), .ref (md 24), .ref (md 25), .ref (md 26), .int (jI tq), .ref (md 28), .ref (md 29), .ref (md 30)])), ((md 3), .inl (g.2.1, 40, .inr (.inl (aL ga))))] (S := Int × (Int → Int)) (fun z u => (((u.1 = 1 ∧ ¬ (0 ≤ net ∧ net < nt)) ∨ (u.1 = 2 ∧ (0 ≤ net ∧ net < nt) ∧ ¬ (1 ≤ v9 ∧ v9 ≤ 1000000 ∧ ga net + v9 ≤ 1000000000))) ∧ u.2 = ga) ∨ (u.1 = 0 ∧ (0 ≤ net ∧ net < nt) ∧ (1 ≤ v9 ∧ v9 ≤ 1000000 ∧ ga net + v9 ≤ 1000000000) ∧ u.2 = upI ga net (ga net + v9) ∧ z = jL (ga net + v9))) (fun u => [(hm, .inr (5, [.int (jI u.1), .int (jI ly), .int (jI nt), .ref (md 3), .int (jI ns), .ref (md 5), .ref (md 6), .ref (md 7), .int (jI nd), .ref (md 9), .ref (md 10), .ref (md 11), .int (jI np), .ref (md 13), .ref (md 14), .ref (md 15), .ref (md 16), .ref (md 17), .ref (md 18), .ref (md 19), .ref (md 20), .int (jI nq), .ref (md 22), .ref (md 23), .ref (md 24), .ref (md 25), .ref (md 26), .int (jI tq), .ref (md 28), .ref (md 29), .ref (md 30)])), ((md 3), .inl (g.2.1, 40, .inr (.inl (aL u.2))))]) := by
  refine jMl_of (cc := cX5_gate) (maxL := 4) (by decide) rfl (Nat.le_of_ble_eq_true rfl) ?_
  intro p e s m args below meth c Q A hx hb hml hts hown hK hA hret ls hl hP hD
  have hS : va_S A s.heap s.heap [] := va_S.rf
  have hown : s.vm.findClass RX5 = some m.cls := hown
  have f7 := hts (.fieldLink RX5 7 "AntennaFillModel" "gates" "[J") (by decide +kernel)
  have f84 := hts (.fieldLink RX5 84 "AntennaFillModel" "code" "I") (by decide +kernel)
  have inX5 : ∀ w ∈ wsX50, w ∈ wsX5_gate := by decide +kernel
  have k132 := hts (.constantLong RX5 132 (1000000)) (by decide +kernel)
  have k134 := hts (.constantLong RX5 134 (1000000000)) (by decide +kernel)
  have hl : lv_has ls 4 [(0, .ref hm), (1, .int (jI net)), (2, .long (jL v9))] := hl
  have hgn := hga net
  have JC : ∀ (cv9 : Int), ((cv9 = 1 ∧ ¬ (0 ≤ net ∧ net < nt)) ∨ (cv9 = 2 ∧ (0 ≤ net ∧ net < nt) ∧ ¬ (1 ≤ v9 ∧ v9 ≤ 1000000 ∧ ga net + v9 ≤ 1000000000)) ∨ (cv9 = 0 ∧ (0 ≤ net ∧ net < nt) ∧ (1 ≤ v9 ∧ v9 ≤ 1000000 ∧ ga net + v9 ≤ 1000000000))) → ∀ (H : Heap) (locs : List Loc) (ls : Array Slot), va_P D jcl [(hm, .inr (5, [.int (jI co), .int (jI ly), .int (jI nt), .ref (md 3), .int (jI ns), .ref (md 5), .ref (md 6), .ref (md 7), .int (jI nd), .ref (md 9), .ref (md 10), .ref (md 11), .int (jI np), .ref (md 13), .ref (md 14), .ref (md 15), .ref (md 16), .ref (md 17), .ref (md 18), .ref (md 19), .ref (md 20), .int (jI nq), .ref (md 22), .ref (md 23), .ref (md 24), .ref (md 25), .ref (md 26), .int (jI tq), .ref (md 28), .ref (md 29), .ref (md 30)])), ((md 3), .inl (g.2.1, 40, .inr (.inl (aL ga))))] H → va_D A [(hm, .inr (5, [.int (jI co), .int (jI ly), .int (jI nt), .ref (md 3), .int (jI ns), .ref (md 5), .ref (md 6), .ref (md 7), .int (jI nd), .ref (md 9), .ref (md 10), .ref (md 11), .int (jI np), .ref (md 13), .ref (md 14), .ref (md 15), .ref (md 16), .ref (md 17), .ref (md 18), .ref (md 19), .ref (md 20), .int (jI nq), .ref (md 22), .ref (md 23), .ref (md 24), .ref (md 25), .ref (md 26), .int (jI tq), .ref (md 28), .ref (md 29), .ref (md 30)])), ((md 3), .inl (g.2.1, 40, .inr (.inl (aL ga))))] → va_S A s.heap H locs → lv_has ls 4 [(0, .ref hm), (1, .int (jI net)), (2, .long (jL v9))] → W p l e (jR 2 80) s m args below meth c H locs 0 0 Q (F0 m 47 ls [.int (jI cv9), .ref hm]) := by
    intro cv9 hcv H locs ls hP hD hS hl
    refine va_put (D := D) (ci := 5) (v := .int (jI cv9)) (ty := .int) (C := RX5) (T := TX5) (N := 31) hx hb hts inX5 tyX5 tyX5_ok nmX5 hown hK hP hD hS 0 rfl rfl 0 (by decide) f84 (fun _ h9 => h9) rfl (by decide +kernel) rfl rfl (Nat.le_of_ble_eq_true rfl) dX5_gate_47 (fun H locs hP hD hS => ?_)
    have hP : va_P D jcl [(hm, .inr (5, [.int (jI cv9), .int (jI ly), .int (jI nt), .ref (md 3), .int (jI ns), .ref (md 5), .ref (md 6), .ref (md 7), .int (jI nd), .ref (md 9), .ref (md 10), .ref (md 11), .int (jI np), .ref (md 13), .ref (md 14), .ref (md 15), .ref (md 16), .ref (md 17), .ref (md 18), .ref (md 19), .ref (md 20), .int (jI nq), .ref (md 22), .ref (md 23), .ref (md 24), .ref (md 25), .ref (md 26), .int (jI tq), .ref (md 28), .ref (md 29), .ref (md 30)])), ((md 3), .inl (g.2.1, 40, .inr (.inl (aL ga))))] H := hP
    have hD : va_D A [(hm, .inr (5, [.int (jI cv9), .int (jI ly), .int (jI nt), .ref (md 3), .int (jI ns), .ref (md 5), .ref (md 6), .ref (md 7), .int (jI nd), .ref (md 9), .ref (md 10), .ref (md 11), .int (jI np), .ref (md 13), .ref (md 14), .ref (md 15), .ref (md 16), .ref (md 17), .ref (md 18), .ref (md 19), .ref (md 20), .int (jI nq), .ref (md 22), .ref (md 23), .ref (md 24), .ref (md 25), .ref (md 26), .int (jI tq), .ref (md 28), .ref (md 29), .ref (md 30)])), ((md 3), .inl (g.2.1, 40, .inr (.inl (aL ga))))] := hD
    refine lv_aload_n hx hb dX5_gate_50 rfl (lv_at hl 0 rfl) ?_
    refine va_get (D := D) (ci := 5) (v := .int (jI cv9)) (C := RX5) (T := TX5) (N := 31) hx hb hts inX5 hown hK hP 0 rfl rfl 0 (by decide) f84 (fun _ h9 => h9) rfl dX5_gate_51 ?_
    refine jv_if_le (tgt := 59) hx hb ⟨by omega, by omega⟩ dX5_gate_54 (by decide) (fun c54 => ?_) (fun c54 => ?_)
    · skip
      refine lv_aload_n hx hb dX5_gate_59 rfl (lv_at hl 0 rfl) ?_
      refine va_get (D := D) (ci := 5) (v := .ref (md 3)) (C := RX5) (T := TX5) (N := 31) hx hb hts inX5 hown hK hP 0 rfl rfl 3 (by decide) f7 (fun _ h9 => h9) rfl dX5_gate_60 ?_
      refine lv_iload_n hx hb dX5_gate_63 rfl (lv_at hl 1 rfl) ?_
      refine lv_dup2_11 hx hb dX5_gate_64 rfl rfl ?_
      refine jv_lald hx hb hK hP 1 1 rfl rfl (i := net) ⟨by omega, by omega⟩ (Nat.le_of_ble_eq_true rfl) dX5_gate_65 ?_
      refine lv_lload_n hx hb dX5_gate_66 rfl (lv_at hl 2 rfl) ?_
      refine jv_ladd hx hb dX5_gate_67 ?_
      refine jv_last hx hb hK hP hD hS 1 1 rfl rfl (i := net) (x := ((ga net) + v9)) ⟨by omega, by omega⟩ (Nat.le_of_ble_eq_true rfl) dX5_gate_68 (fun H locs hP hD hS => ?_)
      have hP : va_P D jcl [(hm, .inr (5, [.int (jI cv9), .int (jI ly), .int (jI nt), .ref (md 3), .int (jI ns), .ref (md 5), .ref (md 6), .ref (md 7), .int (jI nd), .ref (md 9), .ref (md 10), .ref (md 11), .int (jI np), .ref (md 13), .ref (md 14), .ref (md 15), .ref (md 16), .ref (md 17), .ref (md 18), .ref (md 19), .ref (md 20), .int (jI nq), .ref (md 22), .ref (md 23), .ref (md 24), .ref (md 25), .ref (md 26), .int (jI tq), .ref (md 28), .ref (md 29), .ref (md 30)])), ((md 3), .inl (g.2.1, 40, .inr (.inl (aL (upI ga net ((ga net) + v9))))))] H := hP
      have hD : va_D A [(hm, .inr (5, [.int (jI cv9), .int (jI ly), .int (jI nt), .ref (md 3), .int (jI ns), .ref (md 5), .ref (md 6), .ref (md 7), .int (jI nd), .ref (md 9), .ref (md 10), .ref (md 11), .int (jI np), .ref (md 13), .ref (md 14), .ref (md 15), .ref (md 16), .ref (md 17), .ref (md 18), .ref (md 19), .ref (md 20), .int (jI nq), .ref (md 22), .ref (md 23), .ref (md 24), .ref (md 25), .ref (md 26), .int (jI tq), .ref (md 28), .ref (md 29), .ref (md 30)])), ((md 3), .inl (g.2.1, 40, .inr (.inl (aL (upI ga net ((ga net) + v9))))))] := hD
      refine lv_aload_n hx hb dX5_gate_69 rfl (lv_at hl 0 rfl) ?_
      refine va_get (D := D) (ci := 5) (v := .ref (md 3)) (C := RX5) (T := TX5) (N := 31) hx hb hts inX5 hown hK hP 0 rfl rfl 3 (by decide) f7 (fun _ h9 => h9) rfl dX5_gate_70 ?_
      refine lv_iload_n hx hb dX5_gate_73 rfl (lv_at hl 1 rfl) ?_
      refine jv_lald hx hb hK hP 1 1 rfl rfl (i := net) ⟨by omega, by omega⟩ (Nat.le_of_ble_eq_true rfl) dX5_gate_74 ?_
      refine jv_topL (b := ga net + v9) (upI_eq _ _ _) ?_
      exact hret (jL (ga net + v9)) (cv9, upI ga net (ga net + v9)) _ _ _ _ (Or.inr ⟨by show cv9 = 0; omega, by omega, by omega, rfl, rfl⟩) (hP.sub [0, 1] rfl) (hD.sub [0, 1] (by decide) rfl) hS dX5_gate_75
    · skip
      refine jv_lconst0 hx hb dX5_gate_57 ?_
      exact hret (jL 0) (cv9, ga) _ _ _ _ (Or.inl ⟨by show (cv9 = 1 ∧ ¬ (0 ≤ net ∧ net < nt)) ∨ (cv9 = 2 ∧ (0 ≤ net ∧ net < nt) ∧ ¬ (1 ≤ v9 ∧ v9 ≤ 1000000 ∧ ga net + v9 ≤ 1000000000)); omega, rfl⟩) (hP.sub [0, 1] rfl) (hD.sub [0, 1] (by decide) rfl) hS dX5_gate_58
  refine lv_aload_n hx hb dX5_gate_0 rfl (lv_at hl 0 rfl) ?_
  refine lv_aload_n hx hb dX5_gate_1 rfl (lv_at hl 0 rfl) ?_
  refine lv_iload_n hx hb dX5_gate_2 rfl (lv_at hl 1 rfl) ?_
  refine jc_Vi (As := [.int (jI net)]) (rest := [.ref hm]) (wq := [((md 3), .inl (g.2.1, 40, .inr (.inl (aL ga))))]) ⟨hx, hb, hml, hown, hts⟩ (tX5_isNet l D g hm md co ly nt ns nd np nq tq net (⟨hri.1, by omega, by omega⟩)) (cwV 1 hts gX5_gate_X5_isNet rfl rfl rfl (by decide +kernel) ⟨Nat.le_of_ble_eq_true rfl, Nat.le_of_ble_eq_true rfl⟩) hK hP hD hS hA [0] [1] rfl rfl (by decide) (by decide) (by decide) (va_recv hK hP (ci := 5) (q0 := 0) rfl rfl) rfl rfl hl.1 (Nat.le_of_ble_eq_true rfl) dX5_gate_3 ⟨Nat.le_of_ble_eq_true rfl, Nat.le_of_ble_eq_true rfl⟩ (fun zn9 u H locs hu hP hD hS => ?_)
  have hu : (zn9 = 1 ∧ (0 ≤ net ∧ net < nt)) ∨ (zn9 = 0 ∧ ¬ (0 ≤ net ∧ net < nt)) := hu
  have hzn := hu
  have hP : va_P D jcl [((md 3), .inl (g.2.1, 40, .inr (.inl (aL ga)))), (hm, .inr (5, [.int (jI co), .int (jI ly), .int (jI nt), .ref (md 3), .int (jI ns), .ref (md 5), .ref (md 6), .ref (md 7), .int (jI nd), .ref (md 9), .ref (md 10), .ref (md 11), .int (jI np), .ref (md 13), .ref (md 14), .ref (md 15), .ref (md 16), .ref (md 17), .ref (md 18), .ref (md 19), .ref (md 20), .int (jI nq), .ref (md 22), .ref (md 23), .ref (md 24), .ref (md 25), .ref (md 26), .int (jI tq), .ref (md 28), .ref (md 29), .ref (md 30)]))] H := hP
  have hD : va_D A [((md 3), .inl (g.2.1, 40, .inr (.inl (aL ga)))), (hm, .inr (5, [.int (jI co), .int (jI ly), .int (jI nt), .ref (md 3), .int (jI ns), .ref (md 5), .ref (md 6), .ref (md 7), .int (jI nd), .ref (md 9), .ref (md 10), .ref (md 11), .int (jI np), .ref (md 13), .ref (md 14), .ref (md 15), .ref (md 16), .ref (md 17), .ref (md 18), .ref (md 19), .ref (md 20), .int (jI nq), .ref (md 22), .ref (md 23), .ref (md 24), .ref (md 25), .ref (md 26), .int (jI tq), .ref (md 28), .ref (md 29), .ref (md 30)]))] := hD
  refine jv_if_ne (tgt := 13) hx hb ⟨by omega, by omega⟩ dX5_gate_6 (by decide) (fun c6 => ?_) (fun c6 => ?_)
  · skip
    refine lv_lload_n hx hb dX5_gate_13 rfl (lv_at hl 2 rfl) ?_
    refine jv_lconst1 hx hb dX5_gate_14 ?_
    refine jv_lcmp_lt (tgt := 42) hx hb ⟨by omega, by omega⟩ ⟨by decide, by decide⟩ dX5_gate_15 dX5_gate_16 (by decide) (fun c15 => ?_) (fun c15 => ?_)
    · skip
      refine jv_iconst hx hb dX5_gate_42 ?_
      refine lv_goto (tgt := 47) hx hb dX5_gate_43 (by decide) ?_
      exact JC 2 (by omega) _ _ _ (hP.sub [1, 0] rfl) (hD.sub [1, 0] (by decide) rfl) hS (lv_sub hl [0, 1, 2] rfl)
    · skip
      refine lv_lload_n hx hb dX5_gate_19 rfl (lv_at hl 2 rfl) ?_
      refine jv_ldc2 (n := 1000000) hx hb (by decide) hown k132 dX5_gate_20 ?_
      refine jv_lcmp_gt (tgt := 42) hx hb ⟨by omega, by omega⟩ ⟨by decide, by decide⟩ dX5_gate_23 dX5_gate_24 (by decide) (fun c23 => ?_) (fun c23 => ?_)
      · skip
        refine jv_iconst hx hb dX5_gate_42 ?_
        refine lv_goto (tgt := 47) hx hb dX5_gate_43 (by decide) ?_
        exact JC 2 (by omega) _ _ _ (hP.sub [1, 0] rfl) (hD.sub [1, 0] (by decide) rfl) hS (lv_sub hl [0, 1, 2] rfl)
      · skip
        refine lv_aload_n hx hb dX5_gate_27 rfl (lv_at hl 0 rfl) ?_
        refine va_get (D := D) (ci := 5) (v := .ref (md 3)) (C := RX5) (T := TX5) (N := 31) hx hb hts inX5 hown hK hP 1 rfl rfl 3 (by decide) f7 (fun _ h9 => h9) rfl dX5_gate_28 ?_
        refine lv_iload_n hx hb dX5_gate_31 rfl (lv_at hl 1 rfl) ?_
        refine jv_lald hx hb hK hP 0 1 rfl rfl (i := net) ⟨by omega, by omega⟩ (Nat.le_of_ble_eq_true rfl) dX5_gate_32 ?_
        refine lv_lload_n hx hb dX5_gate_33 rfl (lv_at hl 2 rfl) ?_
        refine jv_ladd hx hb dX5_gate_34 ?_
        refine jv_ldc2 (n := 1000000000) hx hb (by decide) hown k134 dX5_gate_35 ?_
        refine jv_lcmp_le (tgt := 46) hx hb ⟨by omega, by omega⟩ ⟨by decide, by decide⟩ dX5_gate_38 dX5_gate_39 (by decide) (fun c38 => ?_) (fun c38 => ?_)
        · skip
          refine jv_iconst hx hb dX5_gate_46 ?_
          exact JC 0 (by omega) _ _ _ (hP.sub [1, 0] rfl) (hD.sub [1, 0] (by decide) rfl) hS (lv_sub hl [0, 1, 2] rfl)
        · skip
          refine jv_iconst hx hb dX5_gate_42 ?_
          refine lv_goto (tgt := 47) hx hb dX5_gate_43 (by decide) ?_
          exact JC 2 (by omega) _ _ _ (hP.sub [1, 0] rfl) (hD.sub [1, 0] (by decide) rfl) hS (lv_sub hl [0, 1, 2] rfl)
  · skip
    refine jv_iconst hx hb dX5_gate_9 ?_
    refine lv_goto (tgt := 47) hx hb dX5_gate_10 (by decide) ?_
    exact JC 1 (by omega) _ _ _ (hP.sub [1, 0] rfl) (hD.sub [1, 0] (by decide) rfl) hS (lv_sub hl [0, 1, 2] rfl)

set_option maxHeartbeats 4000000 in
set_option maxRecDepth 100000 in
/-- limit -/
theorem tX5_limit (l : Launch) (D : va_G) (g : ClassId × ClassId × ClassId) (hm : Nat) (md : Nat → Nat) (co : Int) (ly : Int) (nt : Int) (ns : Int) (nd : Int) (np : Int) (nq : Int) (tq : Int) (la : Int → Int) (lb : Int → Int) (layer : Int) (v9 : Int) (u9 : Int) (hly : 1 ≤ ly ∧ ly ≤ 64) (hri : rI layer ∧ rL v9 ∧ rL u9) (hla : ∀ k, 0 ≤ la k ∧ la k ≤ 1000000) (hlb : ∀ k, 0 ≤ lb k ∧ lb k ≤ 1000000) : jMi l D g yX5_limit wsX5_limit 2 80 [.ref hm, .int (jI layer), .long (jL v9), .long (jL u9)] [(hm, .inr (5, [.int (jI co), .int (jI ly), .int (jI nt), .ref (md 3), .int (jI ns), .ref (md 5), .ref (md 6), .ref (md 7), .int (jI nd), .ref (md 9), .ref (md 10), .ref (md 11), .int (jI np), .ref (md 13), .ref (md 14), .ref (md 15), .ref (md 16), .ref (md 17), .ref (md 18), .ref (md 19), .ref (md 20), .int (jI nq), .ref (md 22), .ref (md 23), .ref (md 24), .ref (md 25), .ref (md 26), .int (jI tq), .ref (md 28), .ref (md 29), .ref (md 30)])), ((md 17), .inl (g.2.1, 64, .inr (.inl (aL la)))), ((md 18), .inl (g.2.1, 64, .inr (.inl (aL lb))))] (S := Int × (Int → Int) × (Int → Int)) (fun z u => (((u.1 = 1 ∧ ¬ (0 ≤ layer ∧ layer < ly)) ∨ (u.1 = 2 ∧ (0 ≤ layer ∧ layer < ly) ∧ ¬ (0 ≤ v9 ∧ v9 ≤ 1000000 ∧ 1 ≤ u9 ∧ u9 ≤ 1000000))) ∧ u.2.1 = la ∧ u.2.2 = lb) ∨ (u.1 = 0 ∧ (0 ≤ layer ∧ layer < ly) ∧ (0 ≤ v9 ∧ v9 ≤ 1000000 ∧ 1 ≤ u9 ∧ u9 ≤ 1000000) ∧ u.2.1 = upI la layer v9 ∧ u.2.2 = upI lb layer u9 ∧ ((z = 1 ∧ (lb layer = 0 ∨ la layer * u9 ≠ v9 * lb layer)) ∨ (z = 0 ∧ ¬ (lb layer = 0 ∨ la layer * u9 ≠ v9 * lb layer))))) (fun u => [(hm, .inr (5, [.int (jI u.1), .int (jI ly), .int (jI nt), .ref (md 3), .int (jI ns), .ref (md 5), .ref (md 6), .ref (md 7), .int (jI nd), .ref (md 9), .ref (md 10), .ref (md 11), .int (jI np), .ref (md 13), .ref (md 14), .ref (md 15), .ref (md 16), .ref (md 17), .ref (md 18), .ref (md 19), .ref (md 20), .int (jI nq), .ref (md 22), .ref (md 23), .ref (md 24), .ref (md 25), .ref (md 26), .int (jI tq), .ref (md 28), .ref (md 29), .ref (md 30)])), ((md 17), .inl (g.2.1, 64, .inr (.inl (aL u.2.1)))), ((md 18), .inl (g.2.1, 64, .inr (.inl (aL u.2.2))))]) := by
  refine jMz_of (cc := cX5_limit) (maxL := 7) (by decide) rfl (Nat.le_of_ble_eq_true rfl) ?_
  intro p e s m args below meth c Q A hx hb hml hts hown hK hA hret ls hl hP hD
  have hS : va_S A s.heap s.heap [] := va_S.rf
  have hown : s.vm.findClass RX5 = some m.cls := hown
  have f44 := hts (.fieldLink RX5 44 "AntennaFillModel" "above" "[J") (by decide +kernel)
  have f47 := hts (.fieldLink RX5 47 "AntennaFillModel" "below" "[J") (by decide +kernel)
  have f84 := hts (.fieldLink RX5 84 "AntennaFillModel" "code" "I") (by decide +kernel)
  have inX5 : ∀ w ∈ wsX50, w ∈ wsX5_limit := by decide +kernel
  have k132 := hts (.constantLong RX5 132 (1000000)) (by decide +kernel)
  have hl : lv_has ls 7 [(0, .ref hm), (1, .int (jI layer)), (2, .long (jL v9)), (4, .long (jL u9))] := hl
  have b1 := hla layer
  have b2 := hlb layer
  have JC : ∀ (cv9 : Int), ((cv9 = 1 ∧ ¬ (0 ≤ layer ∧ layer < ly)) ∨ (cv9 = 2 ∧ (0 ≤ layer ∧ layer < ly) ∧ ¬ (0 ≤ v9 ∧ v9 ≤ 1000000 ∧ 1 ≤ u9 ∧ u9 ≤ 1000000)) ∨ (cv9 = 0 ∧ (0 ≤ layer ∧ layer < ly) ∧ (0 ≤ v9 ∧ v9 ≤ 1000000 ∧ 1 ≤ u9 ∧ u9 ≤ 1000000))) → ∀ (H : Heap) (locs : List Loc) (ls : Array Slot), va_P D jcl [(hm, .inr (5, [.int (jI co), .int (jI ly), .int (jI nt), .ref (md 3), .int (jI ns), .ref (md 5), .ref (md 6), .ref (md 7), .int (jI nd), .ref (md 9), .ref (md 10), .ref (md 11), .int (jI np), .ref (md 13), .ref (md 14), .ref (md 15), .ref (md 16), .ref (md 17), .ref (md 18), .ref (md 19), .ref (md 20), .int (jI nq), .ref (md 22), .ref (md 23), .ref (md 24), .ref (md 25), .ref (md 26), .int (jI tq), .ref (md 28), .ref (md 29), .ref (md 30)])), ((md 17), .inl (g.2.1, 64, .inr (.inl (aL la)))), ((md 18), .inl (g.2.1, 64, .inr (.inl (aL lb))))] H → va_D A [(hm, .inr (5, [.int (jI co), .int (jI ly), .int (jI nt), .ref (md 3), .int (jI ns), .ref (md 5), .ref (md 6), .ref (md 7), .int (jI nd), .ref (md 9), .ref (md 10), .ref (md 11), .int (jI np), .ref (md 13), .ref (md 14), .ref (md 15), .ref (md 16), .ref (md 17), .ref (md 18), .ref (md 19), .ref (md 20), .int (jI nq), .ref (md 22), .ref (md 23), .ref (md 24), .ref (md 25), .ref (md 26), .int (jI tq), .ref (md 28), .ref (md 29), .ref (md 30)])), ((md 17), .inl (g.2.1, 64, .inr (.inl (aL la)))), ((md 18), .inl (g.2.1, 64, .inr (.inl (aL lb))))] → va_S A s.heap H locs → lv_has ls 7 [(0, .ref hm), (1, .int (jI layer)), (2, .long (jL v9)), (4, .long (jL u9))] → W p l e (jR 2 80) s m args below meth c H locs 0 0 Q (F0 m 48 ls [.int (jI cv9), .ref hm]) := by
    intro cv9 hcv H locs ls hP hD hS hl
    refine va_put (D := D) (ci := 5) (v := .int (jI cv9)) (ty := .int) (C := RX5) (T := TX5) (N := 31) hx hb hts inX5 tyX5 tyX5_ok nmX5 hown hK hP hD hS 0 rfl rfl 0 (by decide) f84 (fun _ h9 => h9) rfl (by decide +kernel) rfl rfl (Nat.le_of_ble_eq_true rfl) dX5_limit_48 (fun H locs hP hD hS => ?_)
    have hP : va_P D jcl [(hm, .inr (5, [.int (jI cv9), .int (jI ly), .int (jI nt), .ref (md 3), .int (jI ns), .ref (md 5), .ref (md 6), .ref (md 7), .int (jI nd), .ref (md 9), .ref (md 10), .ref (md 11), .int (jI np), .ref (md 13), .ref (md 14), .ref (md 15), .ref (md 16), .ref (md 17), .ref (md 18), .ref (md 19), .ref (md 20), .int (jI nq), .ref (md 22), .ref (md 23), .ref (md 24), .ref (md 25), .ref (md 26), .int (jI tq), .ref (md 28), .ref (md 29), .ref (md 30)])), ((md 17), .inl (g.2.1, 64, .inr (.inl (aL la)))), ((md 18), .inl (g.2.1, 64, .inr (.inl (aL lb))))] H := hP
    have hD : va_D A [(hm, .inr (5, [.int (jI cv9), .int (jI ly), .int (jI nt), .ref (md 3), .int (jI ns), .ref (md 5), .ref (md 6), .ref (md 7), .int (jI nd), .ref (md 9), .ref (md 10), .ref (md 11), .int (jI np), .ref (md 13), .ref (md 14), .ref (md 15), .ref (md 16), .ref (md 17), .ref (md 18), .ref (md 19), .ref (md 20), .int (jI nq), .ref (md 22), .ref (md 23), .ref (md 24), .ref (md 25), .ref (md 26), .int (jI tq), .ref (md 28), .ref (md 29), .ref (md 30)])), ((md 17), .inl (g.2.1, 64, .inr (.inl (aL la)))), ((md 18), .inl (g.2.1, 64, .inr (.inl (aL lb))))] := hD
    refine lv_aload_n hx hb dX5_limit_51 rfl (lv_at hl 0 rfl) ?_
    refine va_get (D := D) (ci := 5) (v := .int (jI cv9)) (C := RX5) (T := TX5) (N := 31) hx hb hts inX5 hown hK hP 0 rfl rfl 0 (by decide) f84 (fun _ h9 => h9) rfl dX5_limit_52 ?_
    refine jv_if_le (tgt := 60) hx hb ⟨by omega, by omega⟩ dX5_limit_55 (by decide) (fun c55 => ?_) (fun c55 => ?_)
    · skip
      have b3 := mul_bd (a := v9) (b := lb layer) (A := 1000000) (B := 1000000) (by omega) b2
      have b4 := mul_bd (a := la layer) (b := u9) (A := 1000000) (B := 1000000) b1 (by omega)
      refine lv_aload_n hx hb dX5_limit_60 rfl (lv_at hl 0 rfl) ?_
      refine va_get (D := D) (ci := 5) (v := .ref (md 18)) (C := RX5) (T := TX5) (N := 31) hx hb hts inX5 hown hK hP 0 rfl rfl 18 (by decide) f47 (fun _ h9 => h9) rfl dX5_limit_61 ?_
      refine lv_iload_n hx hb dX5_limit_64 rfl (lv_at hl 1 rfl) ?_
      refine jv_lald hx hb hK hP 2 1 rfl rfl (i := layer) ⟨by omega, by omega⟩ (Nat.le_of_ble_eq_true rfl) dX5_limit_65 ?_
      refine jv_lconst0 hx hb dX5_limit_66 ?_
      refine jv_lcmp_eq (tgt := 92) hx hb ⟨by omega, by omega⟩ ⟨by decide, by decide⟩ dX5_limit_67 dX5_limit_68 (by decide) (fun c67 => ?_) (fun c67 => ?_)
      · skip
        refine jv_iconst hx hb dX5_limit_92 ?_
        refine lv_goto (tgt := 97) hx hb dX5_limit_93 (by decide) ?_
        refine lv_istore (lv' := [(6, .int (jI 1)), (0, .ref hm), (1, .int (jI layer)), (2, .long (jL v9)), (4, .long (jL u9))]) hx hb dX5_limit_97 hl (by decide) rfl (fun ls hl => ?_)
        refine lv_aload_n hx hb dX5_limit_99 rfl (lv_at hl 1 rfl) ?_
        refine va_get (D := D) (ci := 5) (v := .ref (md 17)) (C := RX5) (T := TX5) (N := 31) hx hb hts inX5 hown hK hP 0 rfl rfl 17 (by decide) f44 (fun _ h9 => h9) rfl dX5_limit_100 ?_
        refine lv_iload_n hx hb dX5_limit_103 rfl (lv_at hl 2 rfl) ?_
        refine lv_lload_n hx hb dX5_limit_104 rfl (lv_at hl 3 rfl) ?_
        refine jv_last hx hb hK hP hD hS 1 1 rfl rfl (i := layer) (x := v9) ⟨by omega, by omega⟩ (Nat.le_of_ble_eq_true rfl) dX5_limit_105 (fun H locs hP hD hS => ?_)
        have hP : va_P D jcl [(hm, .inr (5, [.int (jI cv9), .int (jI ly), .int (jI nt), .ref (md 3), .int (jI ns), .ref (md 5), .ref (md 6), .ref (md 7), .int (jI nd), .ref (md 9), .ref (md 10), .ref (md 11), .int (jI np), .ref (md 13), .ref (md 14), .ref (md 15), .ref (md 16), .ref (md 17), .ref (md 18), .ref (md 19), .ref (md 20), .int (jI nq), .ref (md 22), .ref (md 23), .ref (md 24), .ref (md 25), .ref (md 26), .int (jI tq), .ref (md 28), .ref (md 29), .ref (md 30)])), ((md 17), .inl (g.2.1, 64, .inr (.inl (aL (upI la layer v9))))), ((md 18), .inl (g.2.1, 64, .inr (.inl (aL lb))))] H := hP
        have hD : va_D A [(hm, .inr (5, [.int (jI cv9), .int (jI ly), .int (jI nt), .ref (md 3), .int (jI ns), .ref (md 5), .ref (md 6), .ref (md 7), .int (jI nd), .ref (md 9), .ref (md 10), .ref (md 11), .int (jI np), .ref (md 13), .ref (md 14), .ref (md 15), .ref (md 16), .ref (md 17), .ref (md 18), .ref (md 19), .ref (md 20), .int (jI nq), .ref (md 22), .ref (md 23), .ref (md 24), .ref (md 25), .ref (md 26), .int (jI tq), .ref (md 28), .ref (md 29), .ref (md 30)])), ((md 17), .inl (g.2.1, 64, .inr (.inl (aL (upI la layer v9))))), ((md 18), .inl (g.2.1, 64, .inr (.inl (aL lb))))] := hD
        refine lv_aload_n hx hb dX5_limit_106 rfl (lv_at hl 1 rfl) ?_
        refine va_get (D := D) (ci := 5) (v := .ref (md 18)) (C := RX5) (T := TX5) (N := 31) hx hb hts inX5 hown hK hP 0 rfl rfl 18 (by decide) f47 (fun _ h9 => h9) rfl dX5_limit_107 ?_
        refine lv_iload_n hx hb dX5_limit_110 rfl (lv_at hl 2 rfl) ?_
        refine lv_lload hx hb dX5_limit_111 (lv_at hl 4 rfl) ?_
        refine jv_last hx hb hK hP hD hS 2 1 rfl rfl (i := layer) (x := u9) ⟨by omega, by omega⟩ (Nat.le_of_ble_eq_true rfl) dX5_limit_113 (fun H locs hP hD hS => ?_)
        have hP : va_P D jcl [(hm, .inr (5, [.int (jI cv9), .int (jI ly), .int (jI nt), .ref (md 3), .int (jI ns), .ref (md 5), .ref (md 6), .ref (md 7), .int (jI nd), .ref (md 9), .ref (md 10), .ref (md 11), .int (jI np), .ref (md 13), .ref (md 14), .ref (md 15), .ref (md 16), .ref (md 17), .ref (md 18), .ref (md 19), .ref (md 20), .int (jI nq), .ref (md 22), .ref (md 23), .ref (md 24), .ref (md 25), .ref (md 26), .int (jI tq), .ref (md 28), .ref (md 29), .ref (md 30)])), ((md 17), .inl (g.2.1, 64, .inr (.inl (aL (upI la layer v9))))), ((md 18), .inl (g.2.1, 64, .inr (.inl (aL (upI lb layer u9)))))] H := hP
        have hD : va_D A [(hm, .inr (5, [.int (jI cv9), .int (jI ly), .int (jI nt), .ref (md 3), .int (jI ns), .ref (md 5), .ref (md 6), .ref (md 7), .int (jI nd), .ref (md 9), .ref (md 10), .ref (md 11), .int (jI np), .ref (md 13), .ref (md 14), .ref (md 15), .ref (md 16), .ref (md 17), .ref (md 18), .ref (md 19), .ref (md 20), .int (jI nq), .ref (md 22), .ref (md 23), .ref (md 24), .ref (md 25), .ref (md 26), .int (jI tq), .ref (md 28), .ref (md 29), .ref (md 30)])), ((md 17), .inl (g.2.1, 64, .inr (.inl (aL (upI la layer v9))))), ((md 18), .inl (g.2.1, 64, .inr (.inl (aL (upI lb layer u9)))))] := hD
        refine lv_iload hx hb dX5_limit_114 (lv_at hl 0 rfl) ?_
        exact hret 1 (cv9, upI la layer v9, upI lb layer u9) _ _ _ _ (by omega) (Or.inr ⟨by show cv9 = 0; omega, by omega, by omega, rfl, rfl, Or.inl ⟨rfl, by first | exact Or.inl c67 | exact Or.inr c88⟩⟩) (hP.sub [0, 1, 2] rfl) (hD.sub [0, 1, 2] (by decide) rfl) hS dX5_limit_116
      · skip
        refine lv_aload_n hx hb dX5_limit_71 rfl (lv_at hl 0 rfl) ?_
        refine va_get (D := D) (ci := 5) (v := .ref (md 17)) (C := RX5) (T := TX5) (N := 31) hx hb hts inX5 hown hK hP 0 rfl rfl 17 (by decide) f44 (fun _ h9 => h9) rfl dX5_limit_72 ?_
        refine lv_iload_n hx hb dX5_limit_75 rfl (lv_at hl 1 rfl) ?_
        refine jv_lald hx hb hK hP 1 1 rfl rfl (i := layer) ⟨by omega, by omega⟩ (Nat.le_of_ble_eq_true rfl) dX5_limit_76 ?_
        refine lv_lload hx hb dX5_limit_77 (lv_at hl 3 rfl) ?_
        refine jv_lmul hx hb dX5_limit_79 ?_
        refine lv_lload_n hx hb dX5_limit_80 rfl (lv_at hl 2 rfl) ?_
        refine lv_aload_n hx hb dX5_limit_81 rfl (lv_at hl 0 rfl) ?_
        refine va_get (D := D) (ci := 5) (v := .ref (md 18)) (C := RX5) (T := TX5) (N := 31) hx hb hts inX5 hown hK hP 0 rfl rfl 18 (by decide) f47 (fun _ h9 => h9) rfl dX5_limit_82 ?_
        refine lv_iload_n hx hb dX5_limit_85 rfl (lv_at hl 1 rfl) ?_
        refine jv_lald hx hb hK hP 2 1 rfl rfl (i := layer) ⟨by omega, by omega⟩ (Nat.le_of_ble_eq_true rfl) dX5_limit_86 ?_
        refine jv_lmul hx hb dX5_limit_87 ?_
        refine jv_lcmp_eq (tgt := 96) hx hb ⟨by omega, by omega⟩ ⟨by omega, by omega⟩ dX5_limit_88 dX5_limit_89 (by decide) (fun c88 => ?_) (fun c88 => ?_)
        · skip
          refine jv_iconst hx hb dX5_limit_96 ?_
          refine lv_istore (lv' := [(6, .int (jI 0)), (0, .ref hm), (1, .int (jI layer)), (2, .long (jL v9)), (4, .long (jL u9))]) hx hb dX5_limit_97 hl (by decide) rfl (fun ls hl => ?_)
          refine lv_aload_n hx hb dX5_limit_99 rfl (lv_at hl 1 rfl) ?_
          refine va_get (D := D) (ci := 5) (v := .ref (md 17)) (C := RX5) (T := TX5) (N := 31) hx hb hts inX5 hown hK hP 0 rfl rfl 17 (by decide) f44 (fun _ h9 => h9) rfl dX5_limit_100 ?_
          refine lv_iload_n hx hb dX5_limit_103 rfl (lv_at hl 2 rfl) ?_
          refine lv_lload_n hx hb dX5_limit_104 rfl (lv_at hl 3 rfl) ?_
          refine jv_last hx hb hK hP hD hS 1 1 rfl rfl (i := layer) (x := v9) ⟨by omega, by omega⟩ (Nat.le_of_ble_eq_true rfl) dX5_limit_105 (fun H locs hP hD hS => ?_)
          have hP : va_P D jcl [(hm, .inr (5, [.int (jI cv9), .int (jI ly), .int (jI nt), .ref (md 3), .int (jI ns), .ref (md 5), .ref (md 6), .ref (md 7), .int (jI nd), .ref (md 9), .ref (md 10), .ref (md 11), .int (jI np), .ref (md 13), .ref (md 14), .ref (md 15), .ref (md 16), .ref (md 17), .ref (md 18), .ref (md 19), .ref (md 20), .int (jI nq), .ref (md 22), .ref (md 23), .ref (md 24), .ref (md 25), .ref (md 26), .int (jI tq), .ref (md 28), .ref (md 29), .ref (md 30)])), ((md 17), .inl (g.2.1, 64, .inr (.inl (aL (upI la layer v9))))), ((md 18), .inl (g.2.1, 64, .inr (.inl (aL lb))))] H := hP
          have hD : va_D A [(hm, .inr (5, [.int (jI cv9), .int (jI ly), .int (jI nt), .ref (md 3), .int (jI ns), .ref (md 5), .ref (md 6), .ref (md 7), .int (jI nd), .ref (md 9), .ref (md 10), .ref (md 11), .int (jI np), .ref (md 13), .ref (md 14), .ref (md 15), .ref (md 16), .ref (md 17), .ref (md 18), .ref (md 19), .ref (md 20), .int (jI nq), .ref (md 22), .ref (md 23), .ref (md 24), .ref (md 25), .ref (md 26), .int (jI tq), .ref (md 28), .ref (md 29), .ref (md 30)])), ((md 17), .inl (g.2.1, 64, .inr (.inl (aL (upI la layer v9))))), ((md 18), .inl (g.2.1, 64, .inr (.inl (aL lb))))] := hD
          refine lv_aload_n hx hb dX5_limit_106 rfl (lv_at hl 1 rfl) ?_
          refine va_get (D := D) (ci := 5) (v := .ref (md 18)) (C := RX5) (T := TX5) (N := 31) hx hb hts inX5 hown hK hP 0 rfl rfl 18 (by decide) f47 (fun _ h9 => h9) rfl dX5_limit_107 ?_
          refine lv_iload_n hx hb dX5_limit_110 rfl (lv_at hl 2 rfl) ?_
          refine lv_lload hx hb dX5_limit_111 (lv_at hl 4 rfl) ?_
          refine jv_last hx hb hK hP hD hS 2 1 rfl rfl (i := layer) (x := u9) ⟨by omega, by omega⟩ (Nat.le_of_ble_eq_true rfl) dX5_limit_113 (fun H locs hP hD hS => ?_)
          have hP : va_P D jcl [(hm, .inr (5, [.int (jI cv9), .int (jI ly), .int (jI nt), .ref (md 3), .int (jI ns), .ref (md 5), .ref (md 6), .ref (md 7), .int (jI nd), .ref (md 9), .ref (md 10), .ref (md 11), .int (jI np), .ref (md 13), .ref (md 14), .ref (md 15), .ref (md 16), .ref (md 17), .ref (md 18), .ref (md 19), .ref (md 20), .int (jI nq), .ref (md 22), .ref (md 23), .ref (md 24), .ref (md 25), .ref (md 26), .int (jI tq), .ref (md 28), .ref (md 29), .ref (md 30)])), ((md 17), .inl (g.2.1, 64, .inr (.inl (aL (upI la layer v9))))), ((md 18), .inl (g.2.1, 64, .inr (.inl (aL (upI lb layer u9)))))] H := hP
          have hD : va_D A [(hm, .inr (5, [.int (jI cv9), .int (jI ly), .int (jI nt), .ref (md 3), .int (jI ns), .ref (md 5), .ref (md 6), .ref (md 7), .int (jI nd), .ref (md 9), .ref (md 10), .ref (md 11), .int (jI np), .ref (md 13), .ref (md 14), .ref (md 15), .ref (md 16), .ref (md 17), .ref (md 18), .ref (md 19), .ref (md 20), .int (jI nq), .ref (md 22), .ref (md 23), .ref (md 24), .ref (md 25), .ref (md 26), .int (jI tq), .ref (md 28), .ref (md 29), .ref (md 30)])), ((md 17), .inl (g.2.1, 64, .inr (.inl (aL (upI la layer v9))))), ((md 18), .inl (g.2.1, 64, .inr (.inl (aL (upI lb layer u9)))))] := hD
          refine lv_iload hx hb dX5_limit_114 (lv_at hl 0 rfl) ?_
          exact hret 0 (cv9, upI la layer v9, upI lb layer u9) _ _ _ _ (by omega) (Or.inr ⟨by show cv9 = 0; omega, by omega, by omega, rfl, rfl, Or.inr ⟨rfl, fun q9 => q9.elim c67 (fun q8 => q8 c88)⟩⟩) (hP.sub [0, 1, 2] rfl) (hD.sub [0, 1, 2] (by decide) rfl) hS dX5_limit_116
        · skip
          refine jv_iconst hx hb dX5_limit_92 ?_
          refine lv_goto (tgt := 97) hx hb dX5_limit_93 (by decide) ?_
          refine lv_istore (lv' := [(6, .int (jI 1)), (0, .ref hm), (1, .int (jI layer)), (2, .long (jL v9)), (4, .long (jL u9))]) hx hb dX5_limit_97 hl (by decide) rfl (fun ls hl => ?_)
          refine lv_aload_n hx hb dX5_limit_99 rfl (lv_at hl 1 rfl) ?_
          refine va_get (D := D) (ci := 5) (v := .ref (md 17)) (C := RX5) (T := TX5) (N := 31) hx hb hts inX5 hown hK hP 0 rfl rfl 17 (by decide) f44 (fun _ h9 => h9) rfl dX5_limit_100 ?_
          refine lv_iload_n hx hb dX5_limit_103 rfl (lv_at hl 2 rfl) ?_
          refine lv_lload_n hx hb dX5_limit_104 rfl (lv_at hl 3 rfl) ?_
          refine jv_last hx hb hK hP hD hS 1 1 rfl rfl (i := layer) (x := v9) ⟨by omega, by omega⟩ (Nat.le_of_ble_eq_true rfl) dX5_limit_105 (fun H locs hP hD hS => ?_)
          have hP : va_P D jcl [(hm, .inr (5, [.int (jI cv9), .int (jI ly), .int (jI nt), .ref (md 3), .int (jI ns), .ref (md 5), .ref (md 6), .ref (md 7), .int (jI nd), .ref (md 9), .ref (md 10), .ref (md 11), .int (jI np), .ref (md 13), .ref (md 14), .ref (md 15), .ref (md 16), .ref (md 17), .ref (md 18), .ref (md 19), .ref (md 20), .int (jI nq), .ref (md 22), .ref (md 23), .ref (md 24), .ref (md 25), .ref (md 26), .int (jI tq), .ref (md 28), .ref (md 29), .ref (md 30)])), ((md 17), .inl (g.2.1, 64, .inr (.inl (aL (upI la layer v9))))), ((md 18), .inl (g.2.1, 64, .inr (.inl (aL lb))))] H := hP
          have hD : va_D A [(hm, .inr (5, [.int (jI cv9), .int (jI ly), .int (jI nt), .ref (md 3), .int (jI ns), .ref (md 5), .ref (md 6), .ref (md 7), .int (jI nd), .ref (md 9), .ref (md 10), .ref (md 11), .int (jI np), .ref (md 13), .ref (md 14), .ref (md 15), .ref (md 16), .ref (md 17), .ref (md 18), .ref (md 19), .ref (md 20), .int (jI nq), .ref (md 22), .ref (md 23), .ref (md 24), .ref (md 25), .ref (md 26), .int (jI tq), .ref (md 28), .ref (md 29), .ref (md 30)])), ((md 17), .inl (g.2.1, 64, .inr (.inl (aL (upI la layer v9))))), ((md 18), .inl (g.2.1, 64, .inr (.inl (aL lb))))] := hD
          refine lv_aload_n hx hb dX5_limit_106 rfl (lv_at hl 1 rfl) ?_
          refine va_get (D := D) (ci := 5) (v := .ref (md 18)) (C := RX5) (T := TX5) (N := 31) hx hb hts inX5 hown hK hP 0 rfl rfl 18 (by decide) f47 (fun _ h9 => h9) rfl dX5_limit_107 ?_
          refine lv_iload_n hx hb dX5_limit_110 rfl (lv_at hl 2 rfl) ?_
          refine lv_lload hx hb dX5_limit_111 (lv_at hl 4 rfl) ?_
          refine jv_last hx hb hK hP hD hS 2 1 rfl rfl (i := layer) (x := u9) ⟨by omega, by omega⟩ (Nat.le_of_ble_eq_true rfl) dX5_limit_113 (fun H locs hP hD hS => ?_)
          have hP : va_P D jcl [(hm, .inr (5, [.int (jI cv9), .int (jI ly), .int (jI nt), .ref (md 3), .int (jI ns), .ref (md 5), .ref (md 6), .ref (md 7), .int (jI nd), .ref (md 9), .ref (md 10), .ref (md 11), .int (jI np), .ref (md 13), .ref (md 14), .ref (md 15), .ref (md 16), .ref (md 17), .ref (md 18), .ref (md 19), .ref (md 20), .int (jI nq), .ref (md 22), .ref (md 23), .ref (md 24), .ref (md 25), .ref (md 26), .int (jI tq), .ref (md 28), .ref (md 29), .ref (md 30)])), ((md 17), .inl (g.2.1, 64, .inr (.inl (aL (upI la layer v9))))), ((md 18), .inl (g.2.1, 64, .inr (.inl (aL (upI lb layer u9)))))] H := hP
          have hD : va_D A [(hm, .inr (5, [.int (jI cv9), .int (jI ly), .int (jI nt), .ref (md 3), .int (jI ns), .ref (md 5), .ref (md 6), .ref (md 7), .int (jI nd), .ref (md 9), .ref (md 10), .ref (md 11), .int (jI np), .ref (md 13), .ref (md 14), .ref (md 15), .ref (md 16), .ref (md 17), .ref (md 18), .ref (md 19), .ref (md 20), .int (jI nq), .ref (md 22), .ref (md 23), .ref (md 24), .ref (md 25), .ref (md 26), .int (jI tq), .ref (md 28), .ref (md 29), .ref (md 30)])), ((md 17), .inl (g.2.1, 64, .inr (.inl (aL (upI la layer v9))))), ((md 18), .inl (g.2.1, 64, .inr (.inl (aL (upI lb layer u9)))))] := hD
          refine lv_iload hx hb dX5_limit_114 (lv_at hl 0 rfl) ?_
          exact hret 1 (cv9, upI la layer v9, upI lb layer u9) _ _ _ _ (by omega) (Or.inr ⟨by show cv9 = 0; omega, by omega, by omega, rfl, rfl, Or.inl ⟨rfl, by first | exact Or.inl c67 | exact Or.inr c88⟩⟩) (hP.sub [0, 1, 2] rfl) (hD.sub [0, 1, 2] (by decide) rfl) hS dX5_limit_116
    · skip
      refine jv_iconst hx hb dX5_limit_58 ?_
      exact hret 0 (cv9, la, lb) _ _ _ _ (by omega) (Or.inl ⟨by show (cv9 = 1 ∧ ¬ (0 ≤ layer ∧ layer < ly)) ∨ (cv9 = 2 ∧ (0 ≤ layer ∧ layer < ly) ∧ ¬ (0 ≤ v9 ∧ v9 ≤ 1000000 ∧ 1 ≤ u9 ∧ u9 ≤ 1000000)); omega, rfl, rfl⟩) (hP.sub [0, 1, 2] rfl) (hD.sub [0, 1, 2] (by decide) rfl) hS dX5_limit_59
  refine lv_aload_n hx hb dX5_limit_0 rfl (lv_at hl 0 rfl) ?_
  refine lv_aload_n hx hb dX5_limit_1 rfl (lv_at hl 0 rfl) ?_
  refine lv_iload_n hx hb dX5_limit_2 rfl (lv_at hl 1 rfl) ?_
  refine jc_Vi (As := [.int (jI layer)]) (rest := [.ref hm]) (wq := [((md 17), .inl (g.2.1, 64, .inr (.inl (aL la)))), ((md 18), .inl (g.2.1, 64, .inr (.inl (aL lb))))]) ⟨hx, hb, hml, hown, hts⟩ (tX5_isLayer l D g hm md co ly nt ns nd np nq tq layer (⟨⟨by omega, by omega⟩, by omega, by omega⟩)) (cwV 1 hts gX5_limit_X5_isLayer rfl rfl rfl (by decide +kernel) ⟨Nat.le_of_ble_eq_true rfl, Nat.le_of_ble_eq_true rfl⟩) hK hP hD hS hA [0] [1, 2] rfl rfl (by decide) (by decide) (by decide) (va_recv hK hP (ci := 5) (q0 := 0) rfl rfl) rfl rfl hl.1 (Nat.le_of_ble_eq_true rfl) dX5_limit_3 ⟨Nat.le_of_ble_eq_true rfl, Nat.le_of_ble_eq_true rfl⟩ (fun zl9 u H locs hu hP hD hS => ?_)
  have hu : (zl9 = 1 ∧ (0 ≤ layer ∧ layer < ly)) ∨ (zl9 = 0 ∧ ¬ (0 ≤ layer ∧ layer < ly)) := hu
  have hzl := hu
  have hP : va_P D jcl [((md 17), .inl (g.2.1, 64, .inr (.inl (aL la)))), ((md 18), .inl (g.2.1, 64, .inr (.inl (aL lb)))), (hm, .inr (5, [.int (jI co), .int (jI ly), .int (jI nt), .ref (md 3), .int (jI ns), .ref (md 5), .ref (md 6), .ref (md 7), .int (jI nd), .ref (md 9), .ref (md 10), .ref (md 11), .int (jI np), .ref (md 13), .ref (md 14), .ref (md 15), .ref (md 16), .ref (md 17), .ref (md 18), .ref (md 19), .ref (md 20), .int (jI nq), .ref (md 22), .ref (md 23), .ref (md 24), .ref (md 25), .ref (md 26), .int (jI tq), .ref (md 28), .ref (md 29), .ref (md 30)]))] H := hP
  have hD : va_D A [((md 17), .inl (g.2.1, 64, .inr (.inl (aL la)))), ((md 18), .inl (g.2.1, 64, .inr (.inl (aL lb)))), (hm, .inr (5, [.int (jI co), .int (jI ly), .int (jI nt), .ref (md 3), .int (jI ns), .ref (md 5), .ref (md 6), .ref (md 7), .int (jI nd), .ref (md 9), .ref (md 10), .ref (md 11), .int (jI np), .ref (md 13), .ref (md 14), .ref (md 15), .ref (md 16), .ref (md 17), .ref (md 18), .ref (md 19), .ref (md 20), .int (jI nq), .ref (md 22), .ref (md 23), .ref (md 24), .ref (md 25), .ref (md 26), .int (jI tq), .ref (md 28), .ref (md 29), .ref (md 30)]))] := hD
  refine jv_if_ne (tgt := 13) hx hb ⟨by omega, by omega⟩ dX5_limit_6 (by decide) (fun c6 => ?_) (fun c6 => ?_)
  · skip
    refine lv_lload_n hx hb dX5_limit_13 rfl (lv_at hl 2 rfl) ?_
    refine jv_lconst0 hx hb dX5_limit_14 ?_
    refine jv_lcmp_lt (tgt := 43) hx hb ⟨by omega, by omega⟩ ⟨by decide, by decide⟩ dX5_limit_15 dX5_limit_16 (by decide) (fun c15 => ?_) (fun c15 => ?_)
    · skip
      refine jv_iconst hx hb dX5_limit_43 ?_
      refine lv_goto (tgt := 48) hx hb dX5_limit_44 (by decide) ?_
      exact JC 2 (by omega) _ _ _ (hP.sub [2, 0, 1] rfl) (hD.sub [2, 0, 1] (by decide) rfl) hS (lv_sub hl [0, 1, 2, 3] rfl)
    · skip
      refine lv_lload_n hx hb dX5_limit_19 rfl (lv_at hl 2 rfl) ?_
      refine jv_ldc2 (n := 1000000) hx hb (by decide) hown k132 dX5_limit_20 ?_
      refine jv_lcmp_gt (tgt := 43) hx hb ⟨by omega, by omega⟩ ⟨by decide, by decide⟩ dX5_limit_23 dX5_limit_24 (by decide) (fun c23 => ?_) (fun c23 => ?_)
      · skip
        refine jv_iconst hx hb dX5_limit_43 ?_
        refine lv_goto (tgt := 48) hx hb dX5_limit_44 (by decide) ?_
        exact JC 2 (by omega) _ _ _ (hP.sub [2, 0, 1] rfl) (hD.sub [2, 0, 1] (by decide) rfl) hS (lv_sub hl [0, 1, 2, 3] rfl)
      · skip
        refine lv_lload hx hb dX5_limit_27 (lv_at hl 3 rfl) ?_
        refine jv_lconst1 hx hb dX5_limit_29 ?_
        refine jv_lcmp_lt (tgt := 43) hx hb ⟨by omega, by omega⟩ ⟨by decide, by decide⟩ dX5_limit_30 dX5_limit_31 (by decide) (fun c30 => ?_) (fun c30 => ?_)
        · skip
          refine jv_iconst hx hb dX5_limit_43 ?_
          refine lv_goto (tgt := 48) hx hb dX5_limit_44 (by decide) ?_
          exact JC 2 (by omega) _ _ _ (hP.sub [2, 0, 1] rfl) (hD.sub [2, 0, 1] (by decide) rfl) hS (lv_sub hl [0, 1, 2, 3] rfl)
        · skip
          refine lv_lload hx hb dX5_limit_34 (lv_at hl 3 rfl) ?_
          refine jv_ldc2 (n := 1000000) hx hb (by decide) hown k132 dX5_limit_36 ?_
          refine jv_lcmp_le (tgt := 47) hx hb ⟨by omega, by omega⟩ ⟨by decide, by decide⟩ dX5_limit_39 dX5_limit_40 (by decide) (fun c39 => ?_) (fun c39 => ?_)
          · skip
            refine jv_iconst hx hb dX5_limit_47 ?_
            exact JC 0 (by omega) _ _ _ (hP.sub [2, 0, 1] rfl) (hD.sub [2, 0, 1] (by decide) rfl) hS (lv_sub hl [0, 1, 2, 3] rfl)
          · skip
            refine jv_iconst hx hb dX5_limit_43 ?_
            refine lv_goto (tgt := 48) hx hb dX5_limit_44 (by decide) ?_
            exact JC 2 (by omega) _ _ _ (hP.sub [2, 0, 1] rfl) (hD.sub [2, 0, 1] (by decide) rfl) hS (lv_sub hl [0, 1, 2, 3] rfl)
  · skip
    refine jv_iconst hx hb dX5_limit_9 ?_
    refine lv_goto (tgt := 48) hx hb dX5_limit_10 (by decide) ?_
    exact JC 1 (by omega) _ _ _ (hP.sub [2, 0, 1] rfl) (hD.sub [2, 0, 1] (by decide) rfl) hS (lv_sub hl [0, 1, 2, 3] rfl)

set_option maxHeartbeats 4000000 in
set_option maxRecDepth 100000 in
/-- bounds -/
theorem tX5_bounds (l : Launch) (D : va_G) (g : ClassId × ClassId × ClassId) (hm : Nat) (md : Nat → Nat) (co : Int) (ly : Int) (nt : Int) (ns : Int) (nd : Int) (np : Int) (nq : Int) (tq : Int) (lo : Int → Int) (hi : Int → Int) (layer : Int) (v9 : Int) (u9 : Int) (hly : 1 ≤ ly ∧ ly ≤ 64) (hri : rI layer ∧ rI v9 ∧ rI u9) (hlo : ∀ k, 0 ≤ lo k ∧ lo k ≤ 100) (hhi : ∀ k, 0 ≤ hi k ∧ hi k ≤ 100) : jMi l D g yX5_bounds wsX5_bounds 2 80 [.ref hm, .int (jI layer), .int (jI v9), .int (jI u9)] [(hm, .inr (5, [.int (jI co), .int (jI ly), .int (jI nt), .ref (md 3), .int (jI ns), .ref (md 5), .ref (md 6), .ref (md 7), .int (jI nd), .ref (md 9), .ref (md 10), .ref (md 11), .int (jI np), .ref (md 13), .ref (md 14), .ref (md 15), .ref (md 16), .ref (md 17), .ref (md 18), .ref (md 19), .ref (md 20), .int (jI nq), .ref (md 22), .ref (md 23), .ref (md 24), .ref (md 25), .ref (md 26), .int (jI tq), .ref (md 28), .ref (md 29), .ref (md 30)])), ((md 19), .inl (g.1, 64, .inl (aI lo))), ((md 20), .inl (g.1, 64, .inl (aI hi)))] (S := Int × (Int → Int) × (Int → Int)) (fun z u => (((u.1 = 1 ∧ ¬ (0 ≤ layer ∧ layer < ly)) ∨ (u.1 = 2 ∧ (0 ≤ layer ∧ layer < ly) ∧ ¬ (0 ≤ v9 ∧ v9 ≤ u9 ∧ u9 ≤ 100))) ∧ u.2.1 = lo ∧ u.2.2 = hi) ∨ (u.1 = 0 ∧ (0 ≤ layer ∧ layer < ly) ∧ (0 ≤ v9 ∧ v9 ≤ u9 ∧ u9 ≤ 100) ∧ u.2.1 = upI lo layer v9 ∧ u.2.2 = upI hi layer u9 ∧ ((z = 1 ∧ (lo layer ≠ v9 ∨ hi layer ≠ u9)) ∨ (z = 0 ∧ ¬ (lo layer ≠ v9 ∨ hi layer ≠ u9))))) (fun u => [(hm, .inr (5, [.int (jI u.1), .int (jI ly), .int (jI nt), .ref (md 3), .int (jI ns), .ref (md 5), .ref (md 6), .ref (md 7), .int (jI nd), .ref (md 9), .ref (md 10), .ref (md 11), .int (jI np), .ref (md 13), .ref (md 14), .ref (md 15), .ref (md 16), .ref (md 17), .ref (md 18), .ref (md 19), .ref (md 20), .int (jI nq), .ref (md 22), .ref (md 23), .ref (md 24), .ref (md 25), .ref (md 26), .int (jI tq), .ref (md 28), .ref (md 29), .ref (md 30)])), ((md 19), .inl (g.1, 64, .inl (aI u.2.1))), ((md 20), .inl (g.1, 64, .inl (aI u.2.2)))]) := by
  refine jMz_of (cc := cX5_bounds) (maxL := 5) (by decide) rfl (Nat.le_of_ble_eq_true rfl) ?_
  intro p e s m args below meth c Q A hx hb hml hts hown hK hA hret ls hl hP hD
  have hS : va_S A s.heap s.heap [] := va_S.rf
  have hown : s.vm.findClass RX5 = some m.cls := hown
  have f50 := hts (.fieldLink RX5 50 "AntennaFillModel" "low" "[I") (by decide +kernel)
  have f53 := hts (.fieldLink RX5 53 "AntennaFillModel" "high" "[I") (by decide +kernel)
  have f84 := hts (.fieldLink RX5 84 "AntennaFillModel" "code" "I") (by decide +kernel)
  have inX5 : ∀ w ∈ wsX50, w ∈ wsX5_bounds := by decide +kernel
  have hl : lv_has ls 5 [(0, .ref hm), (1, .int (jI layer)), (2, .int (jI v9)), (3, .int (jI u9))] := hl
  have b1 := hlo layer
  have b2 := hhi layer
  have JC : ∀ (cv9 : Int), ((cv9 = 1 ∧ ¬ (0 ≤ layer ∧ layer < ly)) ∨ (cv9 = 2 ∧ (0 ≤ layer ∧ layer < ly) ∧ ¬ (0 ≤ v9 ∧ v9 ≤ u9 ∧ u9 ≤ 100)) ∨ (cv9 = 0 ∧ (0 ≤ layer ∧ layer < ly) ∧ (0 ≤ v9 ∧ v9 ≤ u9 ∧ u9 ≤ 100))) → ∀ (H : Heap) (locs : List Loc) (ls : Array Slot), va_P D jcl [(hm, .inr (5, [.int (jI co), .int (jI ly), .int (jI nt), .ref (md 3), .int (jI ns), .ref (md 5), .ref (md 6), .ref (md 7), .int (jI nd), .ref (md 9), .ref (md 10), .ref (md 11), .int (jI np), .ref (md 13), .ref (md 14), .ref (md 15), .ref (md 16), .ref (md 17), .ref (md 18), .ref (md 19), .ref (md 20), .int (jI nq), .ref (md 22), .ref (md 23), .ref (md 24), .ref (md 25), .ref (md 26), .int (jI tq), .ref (md 28), .ref (md 29), .ref (md 30)])), ((md 19), .inl (g.1, 64, .inl (aI lo))), ((md 20), .inl (g.1, 64, .inl (aI hi)))] H → va_D A [(hm, .inr (5, [.int (jI co), .int (jI ly), .int (jI nt), .ref (md 3), .int (jI ns), .ref (md 5), .ref (md 6), .ref (md 7), .int (jI nd), .ref (md 9), .ref (md 10), .ref (md 11), .int (jI np), .ref (md 13), .ref (md 14), .ref (md 15), .ref (md 16), .ref (md 17), .ref (md 18), .ref (md 19), .ref (md 20), .int (jI nq), .ref (md 22), .ref (md 23), .ref (md 24), .ref (md 25), .ref (md 26), .int (jI tq), .ref (md 28), .ref (md 29), .ref (md 30)])), ((md 19), .inl (g.1, 64, .inl (aI lo))), ((md 20), .inl (g.1, 64, .inl (aI hi)))] → va_S A s.heap H locs → lv_has ls 5 [(0, .ref hm), (1, .int (jI layer)), (2, .int (jI v9)), (3, .int (jI u9))] → W p l e (jR 2 80) s m args below meth c H locs 0 0 Q (F0 m 33 ls [.int (jI cv9), .ref hm]) := by
    intro cv9 hcv H locs ls hP hD hS hl
    refine va_put (D := D) (ci := 5) (v := .int (jI cv9)) (ty := .int) (C := RX5) (T := TX5) (N := 31) hx hb hts inX5 tyX5 tyX5_ok nmX5 hown hK hP hD hS 0 rfl rfl 0 (by decide) f84 (fun _ h9 => h9) rfl (by decide +kernel) rfl rfl (Nat.le_of_ble_eq_true rfl) dX5_bounds_33 (fun H locs hP hD hS => ?_)
    have hP : va_P D jcl [(hm, .inr (5, [.int (jI cv9), .int (jI ly), .int (jI nt), .ref (md 3), .int (jI ns), .ref (md 5), .ref (md 6), .ref (md 7), .int (jI nd), .ref (md 9), .ref (md 10), .ref (md 11), .int (jI np), .ref (md 13), .ref (md 14), .ref (md 15), .ref (md 16), .ref (md 17), .ref (md 18), .ref (md 19), .ref (md 20), .int (jI nq), .ref (md 22), .ref (md 23), .ref (md 24), .ref (md 25), .ref (md 26), .int (jI tq), .ref (md 28), .ref (md 29), .ref (md 30)])), ((md 19), .inl (g.1, 64, .inl (aI lo))), ((md 20), .inl (g.1, 64, .inl (aI hi)))] H := hP
    have hD : va_D A [(hm, .inr (5, [.int (jI cv9), .int (jI ly), .int (jI nt), .ref (md 3), .int (jI ns), .ref (md 5), .ref (md 6), .ref (md 7), .int (jI nd), .ref (md 9), .ref (md 10), .ref (md 11), .int (jI np), .ref (md 13), .ref (md 14), .ref (md 15), .ref (md 16), .ref (md 17), .ref (md 18), .ref (md 19), .ref (md 20), .int (jI nq), .ref (md 22), .ref (md 23), .ref (md 24), .ref (md 25), .ref (md 26), .int (jI tq), .ref (md 28), .ref (md 29), .ref (md 30)])), ((md 19), .inl (g.1, 64, .inl (aI lo))), ((md 20), .inl (g.1, 64, .inl (aI hi)))] := hD
    refine lv_aload_n hx hb dX5_bounds_36 rfl (lv_at hl 0 rfl) ?_
    refine va_get (D := D) (ci := 5) (v := .int (jI cv9)) (C := RX5) (T := TX5) (N := 31) hx hb hts inX5 hown hK hP 0 rfl rfl 0 (by decide) f84 (fun _ h9 => h9) rfl dX5_bounds_37 ?_
    refine jv_if_le (tgt := 45) hx hb ⟨by omega, by omega⟩ dX5_bounds_40 (by decide) (fun c40 => ?_) (fun c40 => ?_)
    · skip
      refine lv_aload_n hx hb dX5_bounds_45 rfl (lv_at hl 0 rfl) ?_
      refine va_get (D := D) (ci := 5) (v := .ref (md 19)) (C := RX5) (T := TX5) (N := 31) hx hb hts inX5 hown hK hP 0 rfl rfl 19 (by decide) f50 (fun _ h9 => h9) rfl dX5_bounds_46 ?_
      refine lv_iload_n hx hb dX5_bounds_49 rfl (lv_at hl 1 rfl) ?_
      refine jv_iald hx hb hK hP 1 0 rfl rfl (i := layer) ⟨by omega, by omega⟩ (Nat.le_of_ble_eq_true rfl) dX5_bounds_50 ?_
      refine lv_iload_n hx hb dX5_bounds_51 rfl (lv_at hl 2 rfl) ?_
      refine jv_icmp_ne (tgt := 65) hx hb ⟨by omega, by omega⟩ ⟨by omega, by omega⟩ dX5_bounds_52 (by decide) (fun c52 => ?_) (fun c52 => ?_)
      · skip
        refine jv_iconst hx hb dX5_bounds_65 ?_
        refine lv_goto (tgt := 70) hx hb dX5_bounds_66 (by decide) ?_
        refine lv_istore (lv' := [(4, .int (jI 1)), (0, .ref hm), (1, .int (jI layer)), (2, .int (jI v9)), (3, .int (jI u9))]) hx hb dX5_bounds_70 hl (by decide) rfl (fun ls hl => ?_)
        refine lv_aload_n hx hb dX5_bounds_72 rfl (lv_at hl 1 rfl) ?_
        refine va_get (D := D) (ci := 5) (v := .ref (md 19)) (C := RX5) (T := TX5) (N := 31) hx hb hts inX5 hown hK hP 0 rfl rfl 19 (by decide) f50 (fun _ h9 => h9) rfl dX5_bounds_73 ?_
        refine lv_iload_n hx hb dX5_bounds_76 rfl (lv_at hl 2 rfl) ?_
        refine lv_iload_n hx hb dX5_bounds_77 rfl (lv_at hl 3 rfl) ?_
        refine jv_iast hx hb hK hP hD hS 1 0 rfl rfl (i := layer) (x := v9) ⟨by omega, by omega⟩ (Nat.le_of_ble_eq_true rfl) dX5_bounds_78 (fun H locs hP hD hS => ?_)
        have hP : va_P D jcl [(hm, .inr (5, [.int (jI cv9), .int (jI ly), .int (jI nt), .ref (md 3), .int (jI ns), .ref (md 5), .ref (md 6), .ref (md 7), .int (jI nd), .ref (md 9), .ref (md 10), .ref (md 11), .int (jI np), .ref (md 13), .ref (md 14), .ref (md 15), .ref (md 16), .ref (md 17), .ref (md 18), .ref (md 19), .ref (md 20), .int (jI nq), .ref (md 22), .ref (md 23), .ref (md 24), .ref (md 25), .ref (md 26), .int (jI tq), .ref (md 28), .ref (md 29), .ref (md 30)])), ((md 19), .inl (g.1, 64, .inl (aI (upI lo layer v9)))), ((md 20), .inl (g.1, 64, .inl (aI hi)))] H := hP
        have hD : va_D A [(hm, .inr (5, [.int (jI cv9), .int (jI ly), .int (jI nt), .ref (md 3), .int (jI ns), .ref (md 5), .ref (md 6), .ref (md 7), .int (jI nd), .ref (md 9), .ref (md 10), .ref (md 11), .int (jI np), .ref (md 13), .ref (md 14), .ref (md 15), .ref (md 16), .ref (md 17), .ref (md 18), .ref (md 19), .ref (md 20), .int (jI nq), .ref (md 22), .ref (md 23), .ref (md 24), .ref (md 25), .ref (md 26), .int (jI tq), .ref (md 28), .ref (md 29), .ref (md 30)])), ((md 19), .inl (g.1, 64, .inl (aI (upI lo layer v9)))), ((md 20), .inl (g.1, 64, .inl (aI hi)))] := hD
        refine lv_aload_n hx hb dX5_bounds_79 rfl (lv_at hl 1 rfl) ?_
        refine va_get (D := D) (ci := 5) (v := .ref (md 20)) (C := RX5) (T := TX5) (N := 31) hx hb hts inX5 hown hK hP 0 rfl rfl 20 (by decide) f53 (fun _ h9 => h9) rfl dX5_bounds_80 ?_
        refine lv_iload_n hx hb dX5_bounds_83 rfl (lv_at hl 2 rfl) ?_
        refine lv_iload_n hx hb dX5_bounds_84 rfl (lv_at hl 4 rfl) ?_
        refine jv_iast hx hb hK hP hD hS 2 0 rfl rfl (i := layer) (x := u9) ⟨by omega, by omega⟩ (Nat.le_of_ble_eq_true rfl) dX5_bounds_85 (fun H locs hP hD hS => ?_)
        have hP : va_P D jcl [(hm, .inr (5, [.int (jI cv9), .int (jI ly), .int (jI nt), .ref (md 3), .int (jI ns), .ref (md 5), .ref (md 6), .ref (md 7), .int (jI nd), .ref (md 9), .ref (md 10), .ref (md 11), .int (jI np), .ref (md 13), .ref (md 14), .ref (md 15), .ref (md 16), .ref (md 17), .ref (md 18), .ref (md 19), .ref (md 20), .int (jI nq), .ref (md 22), .ref (md 23), .ref (md 24), .ref (md 25), .ref (md 26), .int (jI tq), .ref (md 28), .ref (md 29), .ref (md 30)])), ((md 19), .inl (g.1, 64, .inl (aI (upI lo layer v9)))), ((md 20), .inl (g.1, 64, .inl (aI (upI hi layer u9))))] H := hP
        have hD : va_D A [(hm, .inr (5, [.int (jI cv9), .int (jI ly), .int (jI nt), .ref (md 3), .int (jI ns), .ref (md 5), .ref (md 6), .ref (md 7), .int (jI nd), .ref (md 9), .ref (md 10), .ref (md 11), .int (jI np), .ref (md 13), .ref (md 14), .ref (md 15), .ref (md 16), .ref (md 17), .ref (md 18), .ref (md 19), .ref (md 20), .int (jI nq), .ref (md 22), .ref (md 23), .ref (md 24), .ref (md 25), .ref (md 26), .int (jI tq), .ref (md 28), .ref (md 29), .ref (md 30)])), ((md 19), .inl (g.1, 64, .inl (aI (upI lo layer v9)))), ((md 20), .inl (g.1, 64, .inl (aI (upI hi layer u9))))] := hD
        refine lv_iload hx hb dX5_bounds_86 (lv_at hl 0 rfl) ?_
        exact hret 1 (cv9, upI lo layer v9, upI hi layer u9) _ _ _ _ (by omega) (Or.inr ⟨by show cv9 = 0; omega, by omega, by omega, rfl, rfl, by omega⟩) (hP.sub [0, 1, 2] rfl) (hD.sub [0, 1, 2] (by decide) rfl) hS dX5_bounds_88
      · skip
        refine lv_aload_n hx hb dX5_bounds_55 rfl (lv_at hl 0 rfl) ?_
        refine va_get (D := D) (ci := 5) (v := .ref (md 20)) (C := RX5) (T := TX5) (N := 31) hx hb hts inX5 hown hK hP 0 rfl rfl 20 (by decide) f53 (fun _ h9 => h9) rfl dX5_bounds_56 ?_
        refine lv_iload_n hx hb dX5_bounds_59 rfl (lv_at hl 1 rfl) ?_
        refine jv_iald hx hb hK hP 2 0 rfl rfl (i := layer) ⟨by omega, by omega⟩ (Nat.le_of_ble_eq_true rfl) dX5_bounds_60 ?_
        refine lv_iload_n hx hb dX5_bounds_61 rfl (lv_at hl 3 rfl) ?_
        refine jv_icmp_eq (tgt := 69) hx hb ⟨by omega, by omega⟩ ⟨by omega, by omega⟩ dX5_bounds_62 (by decide) (fun c62 => ?_) (fun c62 => ?_)
        · skip
          refine jv_iconst hx hb dX5_bounds_69 ?_
          refine lv_istore (lv' := [(4, .int (jI 0)), (0, .ref hm), (1, .int (jI layer)), (2, .int (jI v9)), (3, .int (jI u9))]) hx hb dX5_bounds_70 hl (by decide) rfl (fun ls hl => ?_)
          refine lv_aload_n hx hb dX5_bounds_72 rfl (lv_at hl 1 rfl) ?_
          refine va_get (D := D) (ci := 5) (v := .ref (md 19)) (C := RX5) (T := TX5) (N := 31) hx hb hts inX5 hown hK hP 0 rfl rfl 19 (by decide) f50 (fun _ h9 => h9) rfl dX5_bounds_73 ?_
          refine lv_iload_n hx hb dX5_bounds_76 rfl (lv_at hl 2 rfl) ?_
          refine lv_iload_n hx hb dX5_bounds_77 rfl (lv_at hl 3 rfl) ?_
          refine jv_iast hx hb hK hP hD hS 1 0 rfl rfl (i := layer) (x := v9) ⟨by omega, by omega⟩ (Nat.le_of_ble_eq_true rfl) dX5_bounds_78 (fun H locs hP hD hS => ?_)
          have hP : va_P D jcl [(hm, .inr (5, [.int (jI cv9), .int (jI ly), .int (jI nt), .ref (md 3), .int (jI ns), .ref (md 5), .ref (md 6), .ref (md 7), .int (jI nd), .ref (md 9), .ref (md 10), .ref (md 11), .int (jI np), .ref (md 13), .ref (md 14), .ref (md 15), .ref (md 16), .ref (md 17), .ref (md 18), .ref (md 19), .ref (md 20), .int (jI nq), .ref (md 22), .ref (md 23), .ref (md 24), .ref (md 25), .ref (md 26), .int (jI tq), .ref (md 28), .ref (md 29), .ref (md 30)])), ((md 19), .inl (g.1, 64, .inl (aI (upI lo layer v9)))), ((md 20), .inl (g.1, 64, .inl (aI hi)))] H := hP
          have hD : va_D A [(hm, .inr (5, [.int (jI cv9), .int (jI ly), .int (jI nt), .ref (md 3), .int (jI ns), .ref (md 5), .ref (md 6), .ref (md 7), .int (jI nd), .ref (md 9), .ref (md 10), .ref (md 11), .int (jI np), .ref (md 13), .ref (md 14), .ref (md 15), .ref (md 16), .ref (md 17), .ref (md 18), .ref (md 19), .ref (md 20), .int (jI nq), .ref (md 22), .ref (md 23), .ref (md 24), .ref (md 25), .ref (md 26), .int (jI tq), .ref (md 28), .ref (md 29), .ref (md 30)])), ((md 19), .inl (g.1, 64, .inl (aI (upI lo layer v9)))), ((md 20), .inl (g.1, 64, .inl (aI hi)))] := hD
          refine lv_aload_n hx hb dX5_bounds_79 rfl (lv_at hl 1 rfl) ?_
          refine va_get (D := D) (ci := 5) (v := .ref (md 20)) (C := RX5) (T := TX5) (N := 31) hx hb hts inX5 hown hK hP 0 rfl rfl 20 (by decide) f53 (fun _ h9 => h9) rfl dX5_bounds_80 ?_
          refine lv_iload_n hx hb dX5_bounds_83 rfl (lv_at hl 2 rfl) ?_
          refine lv_iload_n hx hb dX5_bounds_84 rfl (lv_at hl 4 rfl) ?_
          refine jv_iast hx hb hK hP hD hS 2 0 rfl rfl (i := layer) (x := u9) ⟨by omega, by omega⟩ (Nat.le_of_ble_eq_true rfl) dX5_bounds_85 (fun H locs hP hD hS => ?_)
          have hP : va_P D jcl [(hm, .inr (5, [.int (jI cv9), .int (jI ly), .int (jI nt), .ref (md 3), .int (jI ns), .ref (md 5), .ref (md 6), .ref (md 7), .int (jI nd), .ref (md 9), .ref (md 10), .ref (md 11), .int (jI np), .ref (md 13), .ref (md 14), .ref (md 15), .ref (md 16), .ref (md 17), .ref (md 18), .ref (md 19), .ref (md 20), .int (jI nq), .ref (md 22), .ref (md 23), .ref (md 24), .ref (md 25), .ref (md 26), .int (jI tq), .ref (md 28), .ref (md 29), .ref (md 30)])), ((md 19), .inl (g.1, 64, .inl (aI (upI lo layer v9)))), ((md 20), .inl (g.1, 64, .inl (aI (upI hi layer u9))))] H := hP
          have hD : va_D A [(hm, .inr (5, [.int (jI cv9), .int (jI ly), .int (jI nt), .ref (md 3), .int (jI ns), .ref (md 5), .ref (md 6), .ref (md 7), .int (jI nd), .ref (md 9), .ref (md 10), .ref (md 11), .int (jI np), .ref (md 13), .ref (md 14), .ref (md 15), .ref (md 16), .ref (md 17), .ref (md 18), .ref (md 19), .ref (md 20), .int (jI nq), .ref (md 22), .ref (md 23), .ref (md 24), .ref (md 25), .ref (md 26), .int (jI tq), .ref (md 28), .ref (md 29), .ref (md 30)])), ((md 19), .inl (g.1, 64, .inl (aI (upI lo layer v9)))), ((md 20), .inl (g.1, 64, .inl (aI (upI hi layer u9))))] := hD
          refine lv_iload hx hb dX5_bounds_86 (lv_at hl 0 rfl) ?_
          exact hret 0 (cv9, upI lo layer v9, upI hi layer u9) _ _ _ _ (by omega) (Or.inr ⟨by show cv9 = 0; omega, by omega, by omega, rfl, rfl, by omega⟩) (hP.sub [0, 1, 2] rfl) (hD.sub [0, 1, 2] (by decide) rfl) hS dX5_bounds_88
        · skip
          refine jv_iconst hx hb dX5_bounds_65 ?_
          refine lv_goto (tgt := 70) hx hb dX5_bounds_66 (by decide) ?_
          refine lv_istore (lv' := [(4, .int (jI 1)), (0, .ref hm), (1, .int (jI layer)), (2, .int (jI v9)), (3, .int (jI u9))]) hx hb dX5_bounds_70 hl (by decide) rfl (fun ls hl => ?_)
          refine lv_aload_n hx hb dX5_bounds_72 rfl (lv_at hl 1 rfl) ?_
          refine va_get (D := D) (ci := 5) (v := .ref (md 19)) (C := RX5) (T := TX5) (N := 31) hx hb hts inX5 hown hK hP 0 rfl rfl 19 (by decide) f50 (fun _ h9 => h9) rfl dX5_bounds_73 ?_
          refine lv_iload_n hx hb dX5_bounds_76 rfl (lv_at hl 2 rfl) ?_
          refine lv_iload_n hx hb dX5_bounds_77 rfl (lv_at hl 3 rfl) ?_
          refine jv_iast hx hb hK hP hD hS 1 0 rfl rfl (i := layer) (x := v9) ⟨by omega, by omega⟩ (Nat.le_of_ble_eq_true rfl) dX5_bounds_78 (fun H locs hP hD hS => ?_)
          have hP : va_P D jcl [(hm, .inr (5, [.int (jI cv9), .int (jI ly), .int (jI nt), .ref (md 3), .int (jI ns), .ref (md 5), .ref (md 6), .ref (md 7), .int (jI nd), .ref (md 9), .ref (md 10), .ref (md 11), .int (jI np), .ref (md 13), .ref (md 14), .ref (md 15), .ref (md 16), .ref (md 17), .ref (md 18), .ref (md 19), .ref (md 20), .int (jI nq), .ref (md 22), .ref (md 23), .ref (md 24), .ref (md 25), .ref (md 26), .int (jI tq), .ref (md 28), .ref (md 29), .ref (md 30)])), ((md 19), .inl (g.1, 64, .inl (aI (upI lo layer v9)))), ((md 20), .inl (g.1, 64, .inl (aI hi)))] H := hP
          have hD : va_D A [(hm, .inr (5, [.int (jI cv9), .int (jI ly), .int (jI nt), .ref (md 3), .int (jI ns), .ref (md 5), .ref (md 6), .ref (md 7), .int (jI nd), .ref (md 9), .ref (md 10), .ref (md 11), .int (jI np), .ref (md 13), .ref (md 14), .ref (md 15), .ref (md 16), .ref (md 17), .ref (md 18), .ref (md 19), .ref (md 20), .int (jI nq), .ref (md 22), .ref (md 23), .ref (md 24), .ref (md 25), .ref (md 26), .int (jI tq), .ref (md 28), .ref (md 29), .ref (md 30)])), ((md 19), .inl (g.1, 64, .inl (aI (upI lo layer v9)))), ((md 20), .inl (g.1, 64, .inl (aI hi)))] := hD
          refine lv_aload_n hx hb dX5_bounds_79 rfl (lv_at hl 1 rfl) ?_
          refine va_get (D := D) (ci := 5) (v := .ref (md 20)) (C := RX5) (T := TX5) (N := 31) hx hb hts inX5 hown hK hP 0 rfl rfl 20 (by decide) f53 (fun _ h9 => h9) rfl dX5_bounds_80 ?_
          refine lv_iload_n hx hb dX5_bounds_83 rfl (lv_at hl 2 rfl) ?_
          refine lv_iload_n hx hb dX5_bounds_84 rfl (lv_at hl 4 rfl) ?_
          refine jv_iast hx hb hK hP hD hS 2 0 rfl rfl (i := layer) (x := u9) ⟨by omega, by omega⟩ (Nat.le_of_ble_eq_true rfl) dX5_bounds_85 (fun H locs hP hD hS => ?_)
          have hP : va_P D jcl [(hm, .inr (5, [.int (jI cv9), .int (jI ly), .int (jI nt), .ref (md 3), .int (jI ns), .ref (md 5), .ref (md 6), .ref (md 7), .int (jI nd), .ref (md 9), .ref (md 10), .ref (md 11), .int (jI np), .ref (md 13), .ref (md 14), .ref (md 15), .ref (md 16), .ref (md 17), .ref (md 18), .ref (md 19), .ref (md 20), .int (jI nq), .ref (md 22), .ref (md 23), .ref (md 24), .ref (md 25), .ref (md 26), .int (jI tq), .ref (md 28), .ref (md 29), .ref (md 30)])), ((md 19), .inl (g.1, 64, .inl (aI (upI lo layer v9)))), ((md 20), .inl (g.1, 64, .inl (aI (upI hi layer u9))))] H := hP
          have hD : va_D A [(hm, .inr (5, [.int (jI cv9), .int (jI ly), .int (jI nt), .ref (md 3), .int (jI ns), .ref (md 5), .ref (md 6), .ref (md 7), .int (jI nd), .ref (md 9), .ref (md 10), .ref (md 11), .int (jI np), .ref (md 13), .ref (md 14), .ref (md 15), .ref (md 16), .ref (md 17), .ref (md 18), .ref (md 19), .ref (md 20), .int (jI nq), .ref (md 22), .ref (md 23), .ref (md 24), .ref (md 25), .ref (md 26), .int (jI tq), .ref (md 28), .ref (md 29), .ref (md 30)])), ((md 19), .inl (g.1, 64, .inl (aI (upI lo layer v9)))), ((md 20), .inl (g.1, 64, .inl (aI (upI hi layer u9))))] := hD
          refine lv_iload hx hb dX5_bounds_86 (lv_at hl 0 rfl) ?_
          exact hret 1 (cv9, upI lo layer v9, upI hi layer u9) _ _ _ _ (by omega) (Or.inr ⟨by show cv9 = 0; omega, by omega, by omega, rfl, rfl, by omega⟩) (hP.sub [0, 1, 2] rfl) (hD.sub [0, 1, 2] (by decide) rfl) hS dX5_bounds_88
    · skip
      refine jv_iconst hx hb dX5_bounds_43 ?_
      exact hret 0 (cv9, lo, hi) _ _ _ _ (by omega) (Or.inl ⟨by show (cv9 = 1 ∧ ¬ (0 ≤ layer ∧ layer < ly)) ∨ (cv9 = 2 ∧ (0 ≤ layer ∧ layer < ly) ∧ ¬ (0 ≤ v9 ∧ v9 ≤ u9 ∧ u9 ≤ 100)); omega, rfl, rfl⟩) (hP.sub [0, 1, 2] rfl) (hD.sub [0, 1, 2] (by decide) rfl) hS dX5_bounds_44
  refine lv_aload_n hx hb dX5_bounds_0 rfl (lv_at hl 0 rfl) ?_
  refine lv_aload_n hx hb dX5_bounds_1 rfl (lv_at hl 0 rfl) ?_
  refine lv_iload_n hx hb dX5_bounds_2 rfl (lv_at hl 1 rfl) ?_
  refine jc_Vi (As := [.int (jI layer)]) (rest := [.ref hm]) (wq := [((md 19), .inl (g.1, 64, .inl (aI lo))), ((md 20), .inl (g.1, 64, .inl (aI hi)))]) ⟨hx, hb, hml, hown, hts⟩ (tX5_isLayer l D g hm md co ly nt ns nd np nq tq layer (⟨⟨by omega, by omega⟩, by omega, by omega⟩)) (cwV 1 hts gX5_bounds_X5_isLayer rfl rfl rfl (by decide +kernel) ⟨Nat.le_of_ble_eq_true rfl, Nat.le_of_ble_eq_true rfl⟩) hK hP hD hS hA [0] [1, 2] rfl rfl (by decide) (by decide) (by decide) (va_recv hK hP (ci := 5) (q0 := 0) rfl rfl) rfl rfl hl.1 (Nat.le_of_ble_eq_true rfl) dX5_bounds_3 ⟨Nat.le_of_ble_eq_true rfl, Nat.le_of_ble_eq_true rfl⟩ (fun zl9 u H locs hu hP hD hS => ?_)
  have hu : (zl9 = 1 ∧ (0 ≤ layer ∧ layer < ly)) ∨ (zl9 = 0 ∧ ¬ (0 ≤ layer ∧ layer < ly)) := hu
  have hzl := hu
  have hP : va_P D jcl [((md 19), .inl (g.1, 64, .inl (aI lo))), ((md 20), .inl (g.1, 64, .inl (aI hi))), (hm, .inr (5, [.int (jI co), .int (jI ly), .int (jI nt), .ref (md 3), .int (jI ns), .ref (md 5), .ref (md 6), .ref (md 7), .int (jI nd), .ref (md 9), .ref (md 10), .ref (md 11), .int (jI np), .ref (md 13), .ref (md 14), .ref (md 15), .ref (md 16), .ref (md 17), .ref (md 18), .ref (md 19), .ref (md 20), .int (jI nq), .ref (md 22), .ref (md 23), .ref (md 24), .ref (md 25), .ref (md 26), .int (jI tq), .ref (md 28), .ref (md 29), .ref (md 30)]))] H := hP
  have hD : va_D A [((md 19), .inl (g.1, 64, .inl (aI lo))), ((md 20), .inl (g.1, 64, .inl (aI hi))), (hm, .inr (5, [.int (jI co), .int (jI ly), .int (jI nt), .ref (md 3), .int (jI ns), .ref (md 5), .ref (md 6), .ref (md 7), .int (jI nd), .ref (md 9), .ref (md 10), .ref (md 11), .int (jI np), .ref (md 13), .ref (md 14), .ref (md 15), .ref (md 16), .ref (md 17), .ref (md 18), .ref (md 19), .ref (md 20), .int (jI nq), .ref (md 22), .ref (md 23), .ref (md 24), .ref (md 25), .ref (md 26), .int (jI tq), .ref (md 28), .ref (md 29), .ref (md 30)]))] := hD
  refine jv_if_ne (tgt := 13) hx hb ⟨by omega, by omega⟩ dX5_bounds_6 (by decide) (fun c6 => ?_) (fun c6 => ?_)
  · skip
    refine lv_iload_n hx hb dX5_bounds_13 rfl (lv_at hl 2 rfl) ?_
    refine jv_if_lt (tgt := 28) hx hb ⟨by omega, by omega⟩ dX5_bounds_14 (by decide) (fun c14 => ?_) (fun c14 => ?_)
    · skip
      refine jv_iconst hx hb dX5_bounds_28 ?_
      refine lv_goto (tgt := 33) hx hb dX5_bounds_29 (by decide) ?_
      exact JC 2 (by omega) _ _ _ (hP.sub [2, 0, 1] rfl) (hD.sub [2, 0, 1] (by decide) rfl) hS (lv_sub hl [0, 1, 2, 3] rfl)
    · skip
      refine lv_iload_n hx hb dX5_bounds_17 rfl (lv_at hl 2 rfl) ?_
      refine lv_iload_n hx hb dX5_bounds_18 rfl (lv_at hl 3 rfl) ?_
      refine jv_icmp_gt (tgt := 28) hx hb ⟨by omega, by omega⟩ ⟨by omega, by omega⟩ dX5_bounds_19 (by decide) (fun c19 => ?_) (fun c19 => ?_)
      · skip
        refine jv_iconst hx hb dX5_bounds_28 ?_
        refine lv_goto (tgt := 33) hx hb dX5_bounds_29 (by decide) ?_
        exact JC 2 (by omega) _ _ _ (hP.sub [2, 0, 1] rfl) (hD.sub [2, 0, 1] (by decide) rfl) hS (lv_sub hl [0, 1, 2, 3] rfl)
      · skip
        refine lv_iload_n hx hb dX5_bounds_22 rfl (lv_at hl 3 rfl) ?_
        refine jv_bipush hx hb (by decide) dX5_bounds_23 ?_
        refine jv_icmp_le (tgt := 32) hx hb ⟨by omega, by omega⟩ ⟨by decide, by decide⟩ dX5_bounds_25 (by decide) (fun c25 => ?_) (fun c25 => ?_)
        · skip
          refine jv_iconst hx hb dX5_bounds_32 ?_
          exact JC 0 (by omega) _ _ _ (hP.sub [2, 0, 1] rfl) (hD.sub [2, 0, 1] (by decide) rfl) hS (lv_sub hl [0, 1, 2, 3] rfl)
        · skip
          refine jv_iconst hx hb dX5_bounds_28 ?_
          refine lv_goto (tgt := 33) hx hb dX5_bounds_29 (by decide) ?_
          exact JC 2 (by omega) _ _ _ (hP.sub [2, 0, 1] rfl) (hD.sub [2, 0, 1] (by decide) rfl) hS (lv_sub hl [0, 1, 2, 3] rfl)
  · skip
    refine jv_iconst hx hb dX5_bounds_9 ?_
    refine lv_goto (tgt := 33) hx hb dX5_bounds_10 (by decide) ?_
    exact JC 1 (by omega) _ _ _ (hP.sub [2, 0, 1] rfl) (hD.sub [2, 0, 1] (by decide) rfl) hS (lv_sub hl [0, 1, 2, 3] rfl)

set_option maxHeartbeats 4000000 in
set_option maxRecDepth 100000 in
/-- ratio -/
theorem tX5_ratio (l : Launch) (D : va_G) (g : ClassId × ClassId × ClassId) (hm : Nat) (md : Nat → Nat) (co : Int) (ly : Int) (nt : Int) (ns : Int) (nd : Int) (np : Int) (nq : Int) (tq : Int) (ga : Int → Int) (sn : Int → Int) (sl : Int → Int) (bo : Int → Int) (L : List jQ) (tn : Int → Int) (tl : Int → Int) (ta : Int → Int) (TD : List (Int × Int × Int)) (qn : Int → Int) (qs : Int → Int) (qx : Int → Int) (qy : Int → Int) (DD : List jD) (mf : Int → Int64) (net : Int) (layer : Int) (part : Int) (hms : msI sn sl bo ns L) (hns : ns ≤ 200) (hmt : mtI tn tl ta nd TD) (hnd : nd ≤ 100) (hmd : mdI qn qs qx qy np DD) (hnp : np ≤ 60) (hga : ∀ k, 0 ≤ ga k ∧ ga k ≤ 1000000000) (hd2 : ∀ d ∈ DD, 0 ≤ d.2 ∧ d.2 < 64) (hnt : 0 ≤ nt ∧ nt ≤ 40) (hly : 1 ≤ ly ∧ ly ≤ 64) (hri : rI net ∧ rI layer ∧ rI part) : jMl l D g yX5_ratio wsX5_ratio 6 260 [.ref hm, .int (jI net), .int (jI layer), .int (jI part)] [(hm, .inr (5, [.int (jI co), .int (jI ly), .int (jI nt), .ref (md 3), .int (jI ns), .ref (md 5), .ref (md 6), .ref (md 7), .int (jI nd), .ref (md 9), .ref (md 10), .ref (md 11), .int (jI np), .ref (md 13), .ref (md 14), .ref (md 15), .ref (md 16), .ref (md 17), .ref (md 18), .ref (md 19), .ref (md 20), .int (jI nq), .ref (md 22), .ref (md 23), .ref (md 24), .ref (md 25), .ref (md 26), .int (jI tq), .ref (md 28), .ref (md 29), .ref (md 30)])), ((md 3), .inl (g.2.1, 40, .inr (.inl (aL ga)))), ((md 5), .inl (g.1, 200, .inl (aI sn))), ((md 6), .inl (g.1, 200, .inl (aI sl))), ((md 7), .inl (g.1, 800, .inl (aI bo))), ((md 9), .inl (g.1, 100, .inl (aI tn))), ((md 10), .inl (g.1, 100, .inl (aI tl))), ((md 11), .inl (g.2.1, 100, .inr (.inl (aL ta)))), ((md 13), .inl (g.1, 60, .inl (aI qn))), ((md 14), .inl (g.1, 60, .inl (aI qs))), ((md 15), .inl (g.1, 60, .inl (aI qx))), ((md 16), .inl (g.1, 60, .inl (aI qy))), ((md 29), .inl (g.2.1, 16000, .inr (.inl (aW mf))))] (S := Int × (Int → Int64)) (fun z u => (u.1 = 1 ∧ ¬ ((0 ≤ net ∧ net < nt) ∧ (0 ≤ layer ∧ layer < ly) ∧ (0 ≤ part ∧ part < 2))) ∨ (u.1 = 0 ∧ ((0 ≤ net ∧ net < nt) ∧ (0 ≤ layer ∧ layer < ly) ∧ (0 ≤ part ∧ part < 2)) ∧ ((ga net = 0 ∧ z = jL part) ∨ (ga net ≠ 0 ∧ z = jL (lowt (anT L net layer) (gdA ga TD DD net layer) part))))) (fun u => [(hm, .inr (5, [.int (jI u.1), .int (jI ly), .int (jI nt), .ref (md 3), .int (jI ns), .ref (md 5), .ref (md 6), .ref (md 7), .int (jI nd), .ref (md 9), .ref (md 10), .ref (md 11), .int (jI np), .ref (md 13), .ref (md 14), .ref (md 15), .ref (md 16), .ref (md 17), .ref (md 18), .ref (md 19), .ref (md 20), .int (jI nq), .ref (md 22), .ref (md 23), .ref (md 24), .ref (md 25), .ref (md 26), .int (jI tq), .ref (md 28), .ref (md 29), .ref (md 30)])), ((md 3), .inl (g.2.1, 40, .inr (.inl (aL ga)))), ((md 5), .inl (g.1, 200, .inl (aI sn))), ((md 6), .inl (g.1, 200, .inl (aI sl))), ((md 7), .inl (g.1, 800, .inl (aI bo))), ((md 9), .inl (g.1, 100, .inl (aI tn))), ((md 10), .inl (g.1, 100, .inl (aI tl))), ((md 11), .inl (g.2.1, 100, .inr (.inl (aL ta)))), ((md 13), .inl (g.1, 60, .inl (aI qn))), ((md 14), .inl (g.1, 60, .inl (aI qs))), ((md 15), .inl (g.1, 60, .inl (aI qx))), ((md 16), .inl (g.1, 60, .inl (aI qy))), ((md 29), .inl (g.2.1, 16000, .inr (.inl (aW u.2))))]) := by
  refine jMl_of (cc := cX5_ratio) (maxL := 4) (by decide) rfl (Nat.le_of_ble_eq_true rfl) ?_
  intro p e s m args below meth c Q A hx hb hml hts hown hK hA hret ls hl hP hD
  have hS : va_S A s.heap s.heap [] := va_S.rf
  have hown : s.vm.findClass RX5 = some m.cls := hown
  have f7 := hts (.fieldLink RX5 7 "AntennaFillModel" "gates" "[J") (by decide +kernel)
  have f84 := hts (.fieldLink RX5 84 "AntennaFillModel" "code" "I") (by decide +kernel)
  have inX5 : ∀ w ∈ wsX50, w ∈ wsX5_ratio := by decide +kernel
  have hl : lv_has ls 4 [(0, .ref hm), (1, .int (jI net)), (2, .int (jI layer)), (3, .int (jI part))] := hl
  have hgn := hga net
  have JC : ∀ (cv9 : Int), ((cv9 = 1 ∧ ¬ ((0 ≤ net ∧ net < nt) ∧ (0 ≤ layer ∧ layer < ly) ∧ (0 ≤ part ∧ part < 2))) ∨ (cv9 = 0 ∧ ((0 ≤ net ∧ net < nt) ∧ (0 ≤ layer ∧ layer < ly) ∧ (0 ≤ part ∧ part < 2)))) → ∀ (H : Heap) (locs : List Loc) (ls : Array Slot), va_P D jcl [(hm, .inr (5, [.int (jI co), .int (jI ly), .int (jI nt), .ref (md 3), .int (jI ns), .ref (md 5), .ref (md 6), .ref (md 7), .int (jI nd), .ref (md 9), .ref (md 10), .ref (md 11), .int (jI np), .ref (md 13), .ref (md 14), .ref (md 15), .ref (md 16), .ref (md 17), .ref (md 18), .ref (md 19), .ref (md 20), .int (jI nq), .ref (md 22), .ref (md 23), .ref (md 24), .ref (md 25), .ref (md 26), .int (jI tq), .ref (md 28), .ref (md 29), .ref (md 30)])), ((md 3), .inl (g.2.1, 40, .inr (.inl (aL ga)))), ((md 5), .inl (g.1, 200, .inl (aI sn))), ((md 6), .inl (g.1, 200, .inl (aI sl))), ((md 7), .inl (g.1, 800, .inl (aI bo))), ((md 9), .inl (g.1, 100, .inl (aI tn))), ((md 10), .inl (g.1, 100, .inl (aI tl))), ((md 11), .inl (g.2.1, 100, .inr (.inl (aL ta)))), ((md 13), .inl (g.1, 60, .inl (aI qn))), ((md 14), .inl (g.1, 60, .inl (aI qs))), ((md 15), .inl (g.1, 60, .inl (aI qx))), ((md 16), .inl (g.1, 60, .inl (aI qy))), ((md 29), .inl (g.2.1, 16000, .inr (.inl (aW mf))))] H → va_D A [(hm, .inr (5, [.int (jI co), .int (jI ly), .int (jI nt), .ref (md 3), .int (jI ns), .ref (md 5), .ref (md 6), .ref (md 7), .int (jI nd), .ref (md 9), .ref (md 10), .ref (md 11), .int (jI np), .ref (md 13), .ref (md 14), .ref (md 15), .ref (md 16), .ref (md 17), .ref (md 18), .ref (md 19), .ref (md 20), .int (jI nq), .ref (md 22), .ref (md 23), .ref (md 24), .ref (md 25), .ref (md 26), .int (jI tq), .ref (md 28), .ref (md 29), .ref (md 30)])), ((md 3), .inl (g.2.1, 40, .inr (.inl (aL ga)))), ((md 5), .inl (g.1, 200, .inl (aI sn))), ((md 6), .inl (g.1, 200, .inl (aI sl))), ((md 7), .inl (g.1, 800, .inl (aI bo))), ((md 9), .inl (g.1, 100, .inl (aI tn))), ((md 10), .inl (g.1, 100, .inl (aI tl))), ((md 11), .inl (g.2.1, 100, .inr (.inl (aL ta)))), ((md 13), .inl (g.1, 60, .inl (aI qn))), ((md 14), .inl (g.1, 60, .inl (aI qs))), ((md 15), .inl (g.1, 60, .inl (aI qx))), ((md 16), .inl (g.1, 60, .inl (aI qy))), ((md 29), .inl (g.2.1, 16000, .inr (.inl (aW mf))))] → va_S A s.heap H locs → lv_has ls 4 [(0, .ref hm), (1, .int (jI net)), (2, .int (jI layer)), (3, .int (jI part))] → W p l e (jR 6 260) s m args below meth c H locs 0 0 Q (F0 m 31 ls [.int (jI cv9), .ref hm]) := by
    intro cv9 hcv H locs ls hP hD hS hl
    refine va_put (D := D) (ci := 5) (v := .int (jI cv9)) (ty := .int) (C := RX5) (T := TX5) (N := 31) hx hb hts inX5 tyX5 tyX5_ok nmX5 hown hK hP hD hS 0 rfl rfl 0 (by decide) f84 (fun _ h9 => h9) rfl (by decide +kernel) rfl rfl (Nat.le_of_ble_eq_true rfl) dX5_ratio_31 (fun H locs hP hD hS => ?_)
    have hP : va_P D jcl [(hm, .inr (5, [.int (jI cv9), .int (jI ly), .int (jI nt), .ref (md 3), .int (jI ns), .ref (md 5), .ref (md 6), .ref (md 7), .int (jI nd), .ref (md 9), .ref (md 10), .ref (md 11), .int (jI np), .ref (md 13), .ref (md 14), .ref (md 15), .ref (md 16), .ref (md 17), .ref (md 18), .ref (md 19), .ref (md 20), .int (jI nq), .ref (md 22), .ref (md 23), .ref (md 24), .ref (md 25), .ref (md 26), .int (jI tq), .ref (md 28), .ref (md 29), .ref (md 30)])), ((md 3), .inl (g.2.1, 40, .inr (.inl (aL ga)))), ((md 5), .inl (g.1, 200, .inl (aI sn))), ((md 6), .inl (g.1, 200, .inl (aI sl))), ((md 7), .inl (g.1, 800, .inl (aI bo))), ((md 9), .inl (g.1, 100, .inl (aI tn))), ((md 10), .inl (g.1, 100, .inl (aI tl))), ((md 11), .inl (g.2.1, 100, .inr (.inl (aL ta)))), ((md 13), .inl (g.1, 60, .inl (aI qn))), ((md 14), .inl (g.1, 60, .inl (aI qs))), ((md 15), .inl (g.1, 60, .inl (aI qx))), ((md 16), .inl (g.1, 60, .inl (aI qy))), ((md 29), .inl (g.2.1, 16000, .inr (.inl (aW mf))))] H := hP
    have hD : va_D A [(hm, .inr (5, [.int (jI cv9), .int (jI ly), .int (jI nt), .ref (md 3), .int (jI ns), .ref (md 5), .ref (md 6), .ref (md 7), .int (jI nd), .ref (md 9), .ref (md 10), .ref (md 11), .int (jI np), .ref (md 13), .ref (md 14), .ref (md 15), .ref (md 16), .ref (md 17), .ref (md 18), .ref (md 19), .ref (md 20), .int (jI nq), .ref (md 22), .ref (md 23), .ref (md 24), .ref (md 25), .ref (md 26), .int (jI tq), .ref (md 28), .ref (md 29), .ref (md 30)])), ((md 3), .inl (g.2.1, 40, .inr (.inl (aL ga)))), ((md 5), .inl (g.1, 200, .inl (aI sn))), ((md 6), .inl (g.1, 200, .inl (aI sl))), ((md 7), .inl (g.1, 800, .inl (aI bo))), ((md 9), .inl (g.1, 100, .inl (aI tn))), ((md 10), .inl (g.1, 100, .inl (aI tl))), ((md 11), .inl (g.2.1, 100, .inr (.inl (aL ta)))), ((md 13), .inl (g.1, 60, .inl (aI qn))), ((md 14), .inl (g.1, 60, .inl (aI qs))), ((md 15), .inl (g.1, 60, .inl (aI qx))), ((md 16), .inl (g.1, 60, .inl (aI qy))), ((md 29), .inl (g.2.1, 16000, .inr (.inl (aW mf))))] := hD
    refine lv_aload_n hx hb dX5_ratio_34 rfl (lv_at hl 0 rfl) ?_
    refine va_get (D := D) (ci := 5) (v := .int (jI cv9)) (C := RX5) (T := TX5) (N := 31) hx hb hts inX5 hown hK hP 0 rfl rfl 0 (by decide) f84 (fun _ h9 => h9) rfl dX5_ratio_35 ?_
    refine jv_if_le (tgt := 43) hx hb ⟨by omega, by omega⟩ dX5_ratio_38 (by decide) (fun c38 => ?_) (fun c38 => ?_)
    · skip
      have han : 0 ≤ anT L net layer ∧ anT L net layer ≤ 64000000 := sm_ar_bd L net (i := layer + 1) ⟨by omega, by omega⟩
      refine lv_aload_n hx hb dX5_ratio_43 rfl (lv_at hl 0 rfl) ?_
      refine va_get (D := D) (ci := 5) (v := .ref (md 3)) (C := RX5) (T := TX5) (N := 31) hx hb hts inX5 hown hK hP 0 rfl rfl 3 (by decide) f7 (fun _ h9 => h9) rfl dX5_ratio_44 ?_
      refine lv_iload_n hx hb dX5_ratio_47 rfl (lv_at hl 1 rfl) ?_
      refine jv_lald hx hb hK hP 1 1 rfl rfl (i := net) ⟨by omega, by omega⟩ (Nat.le_of_ble_eq_true rfl) dX5_ratio_48 ?_
      refine jv_lconst0 hx hb dX5_ratio_49 ?_
      refine jv_lcmp_ne (tgt := 59) hx hb ⟨by omega, by omega⟩ ⟨by decide, by decide⟩ dX5_ratio_50 dX5_ratio_51 (by decide) (fun c50 => ?_) (fun c50 => ?_)
      · skip
        refine lv_aload_n hx hb dX5_ratio_59 rfl (lv_at hl 0 rfl) ?_
        refine lv_iload_n hx hb dX5_ratio_60 rfl (lv_at hl 1 rfl) ?_
        refine lv_iload_n hx hb dX5_ratio_61 rfl (lv_at hl 2 rfl) ?_
        refine jc_Vl (As := [.int (jI net), .int (jI layer)]) (rest := []) (wq := [((md 3), .inl (g.2.1, 40, .inr (.inl (aL ga)))), ((md 9), .inl (g.1, 100, .inl (aI tn))), ((md 10), .inl (g.1, 100, .inl (aI tl))), ((md 11), .inl (g.2.1, 100, .inr (.inl (aL ta)))), ((md 13), .inl (g.1, 60, .inl (aI qn))), ((md 14), .inl (g.1, 60, .inl (aI qs))), ((md 15), .inl (g.1, 60, .inl (aI qx))), ((md 16), .inl (g.1, 60, .inl (aI qy)))]) ⟨hx, hb, hml, hown, hts⟩ (tX5_antenna l D g hm md cv9 ly nt ns nd np nq tq sn sl bo L mf net layer (hms) (hns) (⟨by omega, by omega⟩) (⟨by omega, by omega⟩)) (cwV 2 hts gX5_ratio_X5_antenna rfl rfl rfl (by decide +kernel) ⟨Nat.le_of_ble_eq_true rfl, Nat.le_of_ble_eq_true rfl⟩) hK hP hD hS hA [0, 2, 3, 4, 12] [1, 5, 6, 7, 8, 9, 10, 11] rfl rfl (by decide) (by decide) (by decide) (va_recv hK hP (ci := 5) (q0 := 0) rfl rfl) rfl rfl hl.1 (Nat.le_of_ble_eq_true rfl) dX5_ratio_62 ⟨Nat.le_of_ble_eq_true rfl, Nat.le_of_ble_eq_true rfl⟩ (fun za9 u H locs hu hP hD hS => ?_)
        obtain ⟨mf2, rfl⟩ : ∃ z9, z9 = u := ⟨_, rfl⟩
        have hu : za9 = jL (anT L net layer) := hu
        have hza := hu
        have hP : va_P D jcl [((md 3), .inl (g.2.1, 40, .inr (.inl (aL ga)))), ((md 9), .inl (g.1, 100, .inl (aI tn))), ((md 10), .inl (g.1, 100, .inl (aI tl))), ((md 11), .inl (g.2.1, 100, .inr (.inl (aL ta)))), ((md 13), .inl (g.1, 60, .inl (aI qn))), ((md 14), .inl (g.1, 60, .inl (aI qs))), ((md 15), .inl (g.1, 60, .inl (aI qx))), ((md 16), .inl (g.1, 60, .inl (aI qy))), (hm, .inr (5, [.int (jI cv9), .int (jI ly), .int (jI nt), .ref (md 3), .int (jI ns), .ref (md 5), .ref (md 6), .ref (md 7), .int (jI nd), .ref (md 9), .ref (md 10), .ref (md 11), .int (jI np), .ref (md 13), .ref (md 14), .ref (md 15), .ref (md 16), .ref (md 17), .ref (md 18), .ref (md 19), .ref (md 20), .int (jI nq), .ref (md 22), .ref (md 23), .ref (md 24), .ref (md 25), .ref (md 26), .int (jI tq), .ref (md 28), .ref (md 29), .ref (md 30)])), ((md 5), .inl (g.1, 200, .inl (aI sn))), ((md 6), .inl (g.1, 200, .inl (aI sl))), ((md 7), .inl (g.1, 800, .inl (aI bo))), ((md 29), .inl (g.2.1, 16000, .inr (.inl (aW mf2))))] H := hP
        have hD : va_D A [((md 3), .inl (g.2.1, 40, .inr (.inl (aL ga)))), ((md 9), .inl (g.1, 100, .inl (aI tn))), ((md 10), .inl (g.1, 100, .inl (aI tl))), ((md 11), .inl (g.2.1, 100, .inr (.inl (aL ta)))), ((md 13), .inl (g.1, 60, .inl (aI qn))), ((md 14), .inl (g.1, 60, .inl (aI qs))), ((md 15), .inl (g.1, 60, .inl (aI qx))), ((md 16), .inl (g.1, 60, .inl (aI qy))), (hm, .inr (5, [.int (jI cv9), .int (jI ly), .int (jI nt), .ref (md 3), .int (jI ns), .ref (md 5), .ref (md 6), .ref (md 7), .int (jI nd), .ref (md 9), .ref (md 10), .ref (md 11), .int (jI np), .ref (md 13), .ref (md 14), .ref (md 15), .ref (md 16), .ref (md 17), .ref (md 18), .ref (md 19), .ref (md 20), .int (jI nq), .ref (md 22), .ref (md 23), .ref (md 24), .ref (md 25), .ref (md 26), .int (jI tq), .ref (md 28), .ref (md 29), .ref (md 30)])), ((md 5), .inl (g.1, 200, .inl (aI sn))), ((md 6), .inl (g.1, 200, .inl (aI sl))), ((md 7), .inl (g.1, 800, .inl (aI bo))), ((md 29), .inl (g.2.1, 16000, .inr (.inl (aW mf2))))] := hD
        subst hza
        refine lv_aload_n hx hb dX5_ratio_65 rfl (lv_at hl 0 rfl) ?_
        refine lv_iload_n hx hb dX5_ratio_66 rfl (lv_at hl 1 rfl) ?_
        refine lv_iload_n hx hb dX5_ratio_67 rfl (lv_at hl 2 rfl) ?_
        refine jc_Vl (As := [.int (jI net), .int (jI layer)]) (rest := [.long (jL (anT L net layer))]) (wq := [((md 5), .inl (g.1, 200, .inl (aI sn))), ((md 6), .inl (g.1, 200, .inl (aI sl))), ((md 7), .inl (g.1, 800, .inl (aI bo))), ((md 29), .inl (g.2.1, 16000, .inr (.inl (aW mf2))))]) ⟨hx, hb, hml, hown, hts⟩ (tX5_guard l D g hm md cv9 ly nt ns nd np nq tq ga tn tl ta TD qn qs qx qy DD net layer (hmt) (hnd) (hmd) (hnp) (hga) (hd2) (⟨by omega, by omega⟩) (⟨by omega, by omega⟩)) (cwV 2 hts gX5_ratio_X5_guard rfl rfl rfl (by decide +kernel) ⟨Nat.le_of_ble_eq_true rfl, Nat.le_of_ble_eq_true rfl⟩) hK hP hD hS hA [8, 0, 1, 2, 3, 4, 5, 6, 7] [9, 10, 11, 12] rfl rfl (by decide) (by decide) (by decide) (va_recv hK hP (ci := 5) (q0 := 8) rfl rfl) rfl rfl hl.1 (Nat.le_of_ble_eq_true rfl) dX5_ratio_68 ⟨Nat.le_of_ble_eq_true rfl, Nat.le_of_ble_eq_true rfl⟩ (fun zg9 u H locs hu hP hD hS => ?_)
        have hu : zg9 = jL (gdA ga TD DD net layer) ∧ 0 ≤ gdA ga TD DD net layer ∧ gdA ga TD DD net layer ≤ 2000000000 := hu
        obtain ⟨hzg, hg1, hg2⟩ := hu
        have hP : va_P D jcl [((md 5), .inl (g.1, 200, .inl (aI sn))), ((md 6), .inl (g.1, 200, .inl (aI sl))), ((md 7), .inl (g.1, 800, .inl (aI bo))), ((md 29), .inl (g.2.1, 16000, .inr (.inl (aW mf2)))), (hm, .inr (5, [.int (jI cv9), .int (jI ly), .int (jI nt), .ref (md 3), .int (jI ns), .ref (md 5), .ref (md 6), .ref (md 7), .int (jI nd), .ref (md 9), .ref (md 10), .ref (md 11), .int (jI np), .ref (md 13), .ref (md 14), .ref (md 15), .ref (md 16), .ref (md 17), .ref (md 18), .ref (md 19), .ref (md 20), .int (jI nq), .ref (md 22), .ref (md 23), .ref (md 24), .ref (md 25), .ref (md 26), .int (jI tq), .ref (md 28), .ref (md 29), .ref (md 30)])), ((md 3), .inl (g.2.1, 40, .inr (.inl (aL ga)))), ((md 9), .inl (g.1, 100, .inl (aI tn))), ((md 10), .inl (g.1, 100, .inl (aI tl))), ((md 11), .inl (g.2.1, 100, .inr (.inl (aL ta)))), ((md 13), .inl (g.1, 60, .inl (aI qn))), ((md 14), .inl (g.1, 60, .inl (aI qs))), ((md 15), .inl (g.1, 60, .inl (aI qx))), ((md 16), .inl (g.1, 60, .inl (aI qy)))] H := hP
        have hD : va_D A [((md 5), .inl (g.1, 200, .inl (aI sn))), ((md 6), .inl (g.1, 200, .inl (aI sl))), ((md 7), .inl (g.1, 800, .inl (aI bo))), ((md 29), .inl (g.2.1, 16000, .inr (.inl (aW mf2)))), (hm, .inr (5, [.int (jI cv9), .int (jI ly), .int (jI nt), .ref (md 3), .int (jI ns), .ref (md 5), .ref (md 6), .ref (md 7), .int (jI nd), .ref (md 9), .ref (md 10), .ref (md 11), .int (jI np), .ref (md 13), .ref (md 14), .ref (md 15), .ref (md 16), .ref (md 17), .ref (md 18), .ref (md 19), .ref (md 20), .int (jI nq), .ref (md 22), .ref (md 23), .ref (md 24), .ref (md 25), .ref (md 26), .int (jI tq), .ref (md 28), .ref (md 29), .ref (md 30)])), ((md 3), .inl (g.2.1, 40, .inr (.inl (aL ga)))), ((md 9), .inl (g.1, 100, .inl (aI tn))), ((md 10), .inl (g.1, 100, .inl (aI tl))), ((md 11), .inl (g.2.1, 100, .inr (.inl (aL ta)))), ((md 13), .inl (g.1, 60, .inl (aI qn))), ((md 14), .inl (g.1, 60, .inl (aI qs))), ((md 15), .inl (g.1, 60, .inl (aI qx))), ((md 16), .inl (g.1, 60, .inl (aI qy)))] := hD
        subst hzg
        refine lv_iload_n hx hb dX5_ratio_71 rfl (lv_at hl 3 rfl) ?_
        have hgp : ga net ≤ gdA ga TD DD net layer := by
          have e9 := gdA_eq (ga := ga) (TD := TD) (DD := DD) (net := net) (layer := layer) (by omega) (fun d hd => by
            obtain ⟨k, hk⟩ := List.mem_iff_getElem?.mp hd
            have := hmt.2 k d hk
            omega) (fun d hd => (hd2 d hd).1)
          have e8 := tdF_bd (TD := TD) net layer (fun d hd => by
            obtain ⟨k, hk⟩ := List.mem_iff_getElem?.mp hd
            have := hmt.2 k d hk
            omega)
          have e7 := plF_bd DD net layer
          omega
        refine jc_Sl (As := [.long (jL (anT L net layer)), .long (jL (gdA ga TD DD net layer)), .int (jI part)]) (rest := []) (wq := [((md 5), .inl (g.1, 200, .inl (aI sn))), ((md 6), .inl (g.1, 200, .inl (aI sl))), ((md 7), .inl (g.1, 800, .inl (aI bo))), ((md 29), .inl (g.2.1, 16000, .inr (.inl (aW mf2)))), (hm, .inr (5, [.int (jI cv9), .int (jI ly), .int (jI nt), .ref (md 3), .int (jI ns), .ref (md 5), .ref (md 6), .ref (md 7), .int (jI nd), .ref (md 9), .ref (md 10), .ref (md 11), .int (jI np), .ref (md 13), .ref (md 14), .ref (md 15), .ref (md 16), .ref (md 17), .ref (md 18), .ref (md 19), .ref (md 20), .int (jI nq), .ref (md 22), .ref (md 23), .ref (md 24), .ref (md 25), .ref (md 26), .int (jI tq), .ref (md 28), .ref (md 29), .ref (md 30)])), ((md 3), .inl (g.2.1, 40, .inr (.inl (aL ga)))), ((md 9), .inl (g.1, 100, .inl (aI tn))), ((md 10), .inl (g.1, 100, .inl (aI tl))), ((md 11), .inl (g.2.1, 100, .inr (.inl (aL ta)))), ((md 13), .inl (g.1, 60, .inl (aI qn))), ((md 14), .inl (g.1, 60, .inl (aI qs))), ((md 15), .inl (g.1, 60, .inl (aI qx))), ((md 16), .inl (g.1, 60, .inl (aI qy)))]) ⟨hx, hb, hml, hown, hts⟩ (tX5_part l D g (anT L net layer) (gdA ga TD DD net layer) part (⟨by omega, by omega⟩) (⟨by omega, by omega⟩) (hri.2.2)) (va_cwS 3 hts gX5_ratio_X5_part rfl rfl rfl (by decide +kernel) ⟨Nat.le_of_ble_eq_true rfl, Nat.le_of_ble_eq_true rfl⟩) hK hP hD hS hA [] [0, 1, 2, 3, 4, 5, 6, 7, 8, 9, 10, 11, 12] rfl rfl (by decide) (by decide) (by decide) rfl rfl hl.1 (Nat.le_of_ble_eq_true rfl) dX5_ratio_72 ⟨Nat.le_of_ble_eq_true rfl, Nat.le_of_ble_eq_true rfl⟩ (fun zp9 u H locs hu hP hD hS => ?_)
        have hu : zp9 = jL (lowt (anT L net layer) (gdA ga TD DD net layer) part) := hu
        have hzp := hu
        have hP : va_P D jcl [((md 5), .inl (g.1, 200, .inl (aI sn))), ((md 6), .inl (g.1, 200, .inl (aI sl))), ((md 7), .inl (g.1, 800, .inl (aI bo))), ((md 29), .inl (g.2.1, 16000, .inr (.inl (aW mf2)))), (hm, .inr (5, [.int (jI cv9), .int (jI ly), .int (jI nt), .ref (md 3), .int (jI ns), .ref (md 5), .ref (md 6), .ref (md 7), .int (jI nd), .ref (md 9), .ref (md 10), .ref (md 11), .int (jI np), .ref (md 13), .ref (md 14), .ref (md 15), .ref (md 16), .ref (md 17), .ref (md 18), .ref (md 19), .ref (md 20), .int (jI nq), .ref (md 22), .ref (md 23), .ref (md 24), .ref (md 25), .ref (md 26), .int (jI tq), .ref (md 28), .ref (md 29), .ref (md 30)])), ((md 3), .inl (g.2.1, 40, .inr (.inl (aL ga)))), ((md 9), .inl (g.1, 100, .inl (aI tn))), ((md 10), .inl (g.1, 100, .inl (aI tl))), ((md 11), .inl (g.2.1, 100, .inr (.inl (aL ta)))), ((md 13), .inl (g.1, 60, .inl (aI qn))), ((md 14), .inl (g.1, 60, .inl (aI qs))), ((md 15), .inl (g.1, 60, .inl (aI qx))), ((md 16), .inl (g.1, 60, .inl (aI qy)))] H := hP
        have hD : va_D A [((md 5), .inl (g.1, 200, .inl (aI sn))), ((md 6), .inl (g.1, 200, .inl (aI sl))), ((md 7), .inl (g.1, 800, .inl (aI bo))), ((md 29), .inl (g.2.1, 16000, .inr (.inl (aW mf2)))), (hm, .inr (5, [.int (jI cv9), .int (jI ly), .int (jI nt), .ref (md 3), .int (jI ns), .ref (md 5), .ref (md 6), .ref (md 7), .int (jI nd), .ref (md 9), .ref (md 10), .ref (md 11), .int (jI np), .ref (md 13), .ref (md 14), .ref (md 15), .ref (md 16), .ref (md 17), .ref (md 18), .ref (md 19), .ref (md 20), .int (jI nq), .ref (md 22), .ref (md 23), .ref (md 24), .ref (md 25), .ref (md 26), .int (jI tq), .ref (md 28), .ref (md 29), .ref (md 30)])), ((md 3), .inl (g.2.1, 40, .inr (.inl (aL ga)))), ((md 9), .inl (g.1, 100, .inl (aI tn))), ((md 10), .inl (g.1, 100, .inl (aI tl))), ((md 11), .inl (g.2.1, 100, .inr (.inl (aL ta)))), ((md 13), .inl (g.1, 60, .inl (aI qn))), ((md 14), .inl (g.1, 60, .inl (aI qs))), ((md 15), .inl (g.1, 60, .inl (aI qx))), ((md 16), .inl (g.1, 60, .inl (aI qy)))] := hD
        exact hret zp9 (cv9, mf2) _ _ _ _ (Or.inr ⟨by show cv9 = 0; omega, by omega, Or.inr ⟨c50, hzp⟩⟩) (hP.sub [4, 5, 0, 1, 2, 6, 7, 8, 9, 10, 11, 12, 3] rfl) (hD.sub [4, 5, 0, 1, 2, 6, 7, 8, 9, 10, 11, 12, 3] (by decide) rfl) hS dX5_ratio_75
      · skip
        refine lv_iload_n hx hb dX5_ratio_54 rfl (lv_at hl 3 rfl) ?_
        refine jv_i2l hx hb ⟨by omega, by omega⟩ dX5_ratio_55 ?_
        refine lv_goto (tgt := 75) hx hb dX5_ratio_56 (by decide) ?_
        exact hret (jL part) (cv9, mf) _ _ _ _ (Or.inr ⟨by show cv9 = 0; omega, by omega, Or.inl ⟨c50, rfl⟩⟩) (hP.sub [0, 1, 2, 3, 4, 5, 6, 7, 8, 9, 10, 11, 12] rfl) (hD.sub [0, 1, 2, 3, 4, 5, 6, 7, 8, 9, 10, 11, 12] (by decide) rfl) hS dX5_ratio_75
    · skip
      refine jv_lconst0 hx hb dX5_ratio_41 ?_
      exact hret (jL 0) (cv9, mf) _ _ _ _ (Or.inl ⟨by show cv9 = 1; omega, by omega⟩) (hP.sub [0, 1, 2, 3, 4, 5, 6, 7, 8, 9, 10, 11, 12] rfl) (hD.sub [0, 1, 2, 3, 4, 5, 6, 7, 8, 9, 10, 11, 12] (by decide) rfl) hS dX5_ratio_42
  refine lv_aload_n hx hb dX5_ratio_0 rfl (lv_at hl 0 rfl) ?_
  refine lv_aload_n hx hb dX5_ratio_1 rfl (lv_at hl 0 rfl) ?_
  refine lv_iload_n hx hb dX5_ratio_2 rfl (lv_at hl 1 rfl) ?_
  refine jc_Vi (As := [.int (jI net)]) (rest := [.ref hm]) (wq := [((md 3), .inl (g.2.1, 40, .inr (.inl (aL ga)))), ((md 5), .inl (g.1, 200, .inl (aI sn))), ((md 6), .inl (g.1, 200, .inl (aI sl))), ((md 7), .inl (g.1, 800, .inl (aI bo))), ((md 9), .inl (g.1, 100, .inl (aI tn))), ((md 10), .inl (g.1, 100, .inl (aI tl))), ((md 11), .inl (g.2.1, 100, .inr (.inl (aL ta)))), ((md 13), .inl (g.1, 60, .inl (aI qn))), ((md 14), .inl (g.1, 60, .inl (aI qs))), ((md 15), .inl (g.1, 60, .inl (aI qx))), ((md 16), .inl (g.1, 60, .inl (aI qy))), ((md 29), .inl (g.2.1, 16000, .inr (.inl (aW mf))))]) ⟨hx, hb, hml, hown, hts⟩ (tX5_isNet l D g hm md co ly nt ns nd np nq tq net (⟨hri.1, by omega, by omega⟩)) (cwV 1 hts gX5_ratio_X5_isNet rfl rfl rfl (by decide +kernel) ⟨Nat.le_of_ble_eq_true rfl, Nat.le_of_ble_eq_true rfl⟩) hK hP hD hS hA [0] [1, 2, 3, 4, 5, 6, 7, 8, 9, 10, 11, 12] rfl rfl (by decide) (by decide) (by decide) (va_recv hK hP (ci := 5) (q0 := 0) rfl rfl) rfl rfl hl.1 (Nat.le_of_ble_eq_true rfl) dX5_ratio_3 ⟨Nat.le_of_ble_eq_true rfl, Nat.le_of_ble_eq_true rfl⟩ (fun zn9 u H locs hu hP hD hS => ?_)
  have hu : (zn9 = 1 ∧ (0 ≤ net ∧ net < nt)) ∨ (zn9 = 0 ∧ ¬ (0 ≤ net ∧ net < nt)) := hu
  have hzn := hu
  have hP : va_P D jcl [((md 3), .inl (g.2.1, 40, .inr (.inl (aL ga)))), ((md 5), .inl (g.1, 200, .inl (aI sn))), ((md 6), .inl (g.1, 200, .inl (aI sl))), ((md 7), .inl (g.1, 800, .inl (aI bo))), ((md 9), .inl (g.1, 100, .inl (aI tn))), ((md 10), .inl (g.1, 100, .inl (aI tl))), ((md 11), .inl (g.2.1, 100, .inr (.inl (aL ta)))), ((md 13), .inl (g.1, 60, .inl (aI qn))), ((md 14), .inl (g.1, 60, .inl (aI qs))), ((md 15), .inl (g.1, 60, .inl (aI qx))), ((md 16), .inl (g.1, 60, .inl (aI qy))), ((md 29), .inl (g.2.1, 16000, .inr (.inl (aW mf)))), (hm, .inr (5, [.int (jI co), .int (jI ly), .int (jI nt), .ref (md 3), .int (jI ns), .ref (md 5), .ref (md 6), .ref (md 7), .int (jI nd), .ref (md 9), .ref (md 10), .ref (md 11), .int (jI np), .ref (md 13), .ref (md 14), .ref (md 15), .ref (md 16), .ref (md 17), .ref (md 18), .ref (md 19), .ref (md 20), .int (jI nq), .ref (md 22), .ref (md 23), .ref (md 24), .ref (md 25), .ref (md 26), .int (jI tq), .ref (md 28), .ref (md 29), .ref (md 30)]))] H := hP
  have hD : va_D A [((md 3), .inl (g.2.1, 40, .inr (.inl (aL ga)))), ((md 5), .inl (g.1, 200, .inl (aI sn))), ((md 6), .inl (g.1, 200, .inl (aI sl))), ((md 7), .inl (g.1, 800, .inl (aI bo))), ((md 9), .inl (g.1, 100, .inl (aI tn))), ((md 10), .inl (g.1, 100, .inl (aI tl))), ((md 11), .inl (g.2.1, 100, .inr (.inl (aL ta)))), ((md 13), .inl (g.1, 60, .inl (aI qn))), ((md 14), .inl (g.1, 60, .inl (aI qs))), ((md 15), .inl (g.1, 60, .inl (aI qx))), ((md 16), .inl (g.1, 60, .inl (aI qy))), ((md 29), .inl (g.2.1, 16000, .inr (.inl (aW mf)))), (hm, .inr (5, [.int (jI co), .int (jI ly), .int (jI nt), .ref (md 3), .int (jI ns), .ref (md 5), .ref (md 6), .ref (md 7), .int (jI nd), .ref (md 9), .ref (md 10), .ref (md 11), .int (jI np), .ref (md 13), .ref (md 14), .ref (md 15), .ref (md 16), .ref (md 17), .ref (md 18), .ref (md 19), .ref (md 20), .int (jI nq), .ref (md 22), .ref (md 23), .ref (md 24), .ref (md 25), .ref (md 26), .int (jI tq), .ref (md 28), .ref (md 29), .ref (md 30)]))] := hD
  refine jv_if_eq (tgt := 26) hx hb ⟨by omega, by omega⟩ dX5_ratio_6 (by decide) (fun c6 => ?_) (fun c6 => ?_)
  · skip
    refine jv_iconst hx hb dX5_ratio_26 ?_
    refine lv_goto (tgt := 31) hx hb dX5_ratio_27 (by decide) ?_
    exact JC 1 (by omega) _ _ _ (hP.sub [12, 0, 1, 2, 3, 4, 5, 6, 7, 8, 9, 10, 11] rfl) (hD.sub [12, 0, 1, 2, 3, 4, 5, 6, 7, 8, 9, 10, 11] (by decide) rfl) hS (lv_sub hl [0, 1, 2, 3] rfl)
  · skip
    refine lv_aload_n hx hb dX5_ratio_9 rfl (lv_at hl 0 rfl) ?_
    refine lv_iload_n hx hb dX5_ratio_10 rfl (lv_at hl 2 rfl) ?_
    refine jc_Vi (As := [.int (jI layer)]) (rest := [.ref hm]) (wq := [((md 3), .inl (g.2.1, 40, .inr (.inl (aL ga)))), ((md 5), .inl (g.1, 200, .inl (aI sn))), ((md 6), .inl (g.1, 200, .inl (aI sl))), ((md 7), .inl (g.1, 800, .inl (aI bo))), ((md 9), .inl (g.1, 100, .inl (aI tn))), ((md 10), .inl (g.1, 100, .inl (aI tl))), ((md 11), .inl (g.2.1, 100, .inr (.inl (aL ta)))), ((md 13), .inl (g.1, 60, .inl (aI qn))), ((md 14), .inl (g.1, 60, .inl (aI qs))), ((md 15), .inl (g.1, 60, .inl (aI qx))), ((md 16), .inl (g.1, 60, .inl (aI qy))), ((md 29), .inl (g.2.1, 16000, .inr (.inl (aW mf))))]) ⟨hx, hb, hml, hown, hts⟩ (tX5_isLayer l D g hm md co ly nt ns nd np nq tq layer (⟨⟨by omega, by omega⟩, by omega, by omega⟩)) (cwV 1 hts gX5_ratio_X5_isLayer rfl rfl rfl (by decide +kernel) ⟨Nat.le_of_ble_eq_true rfl, Nat.le_of_ble_eq_true rfl⟩) hK hP hD hS hA [12] [0, 1, 2, 3, 4, 5, 6, 7, 8, 9, 10, 11] rfl rfl (by decide) (by decide) (by decide) (va_recv hK hP (ci := 5) (q0 := 12) rfl rfl) rfl rfl hl.1 (Nat.le_of_ble_eq_true rfl) dX5_ratio_11 ⟨Nat.le_of_ble_eq_true rfl, Nat.le_of_ble_eq_true rfl⟩ (fun zl9 u H locs hu hP hD hS => ?_)
    have hu : (zl9 = 1 ∧ (0 ≤ layer ∧ layer < ly)) ∨ (zl9 = 0 ∧ ¬ (0 ≤ layer ∧ layer < ly)) := hu
    have hzl := hu
    have hP : va_P D jcl [((md 3), .inl (g.2.1, 40, .inr (.inl (aL ga)))), ((md 5), .inl (g.1, 200, .inl (aI sn))), ((md 6), .inl (g.1, 200, .inl (aI sl))), ((md 7), .inl (g.1, 800, .inl (aI bo))), ((md 9), .inl (g.1, 100, .inl (aI tn))), ((md 10), .inl (g.1, 100, .inl (aI tl))), ((md 11), .inl (g.2.1, 100, .inr (.inl (aL ta)))), ((md 13), .inl (g.1, 60, .inl (aI qn))), ((md 14), .inl (g.1, 60, .inl (aI qs))), ((md 15), .inl (g.1, 60, .inl (aI qx))), ((md 16), .inl (g.1, 60, .inl (aI qy))), ((md 29), .inl (g.2.1, 16000, .inr (.inl (aW mf)))), (hm, .inr (5, [.int (jI co), .int (jI ly), .int (jI nt), .ref (md 3), .int (jI ns), .ref (md 5), .ref (md 6), .ref (md 7), .int (jI nd), .ref (md 9), .ref (md 10), .ref (md 11), .int (jI np), .ref (md 13), .ref (md 14), .ref (md 15), .ref (md 16), .ref (md 17), .ref (md 18), .ref (md 19), .ref (md 20), .int (jI nq), .ref (md 22), .ref (md 23), .ref (md 24), .ref (md 25), .ref (md 26), .int (jI tq), .ref (md 28), .ref (md 29), .ref (md 30)]))] H := hP
    have hD : va_D A [((md 3), .inl (g.2.1, 40, .inr (.inl (aL ga)))), ((md 5), .inl (g.1, 200, .inl (aI sn))), ((md 6), .inl (g.1, 200, .inl (aI sl))), ((md 7), .inl (g.1, 800, .inl (aI bo))), ((md 9), .inl (g.1, 100, .inl (aI tn))), ((md 10), .inl (g.1, 100, .inl (aI tl))), ((md 11), .inl (g.2.1, 100, .inr (.inl (aL ta)))), ((md 13), .inl (g.1, 60, .inl (aI qn))), ((md 14), .inl (g.1, 60, .inl (aI qs))), ((md 15), .inl (g.1, 60, .inl (aI qx))), ((md 16), .inl (g.1, 60, .inl (aI qy))), ((md 29), .inl (g.2.1, 16000, .inr (.inl (aW mf)))), (hm, .inr (5, [.int (jI co), .int (jI ly), .int (jI nt), .ref (md 3), .int (jI ns), .ref (md 5), .ref (md 6), .ref (md 7), .int (jI nd), .ref (md 9), .ref (md 10), .ref (md 11), .int (jI np), .ref (md 13), .ref (md 14), .ref (md 15), .ref (md 16), .ref (md 17), .ref (md 18), .ref (md 19), .ref (md 20), .int (jI nq), .ref (md 22), .ref (md 23), .ref (md 24), .ref (md 25), .ref (md 26), .int (jI tq), .ref (md 28), .ref (md 29), .ref (md 30)]))] := hD
    refine jv_if_eq (tgt := 26) hx hb ⟨by omega, by omega⟩ dX5_ratio_14 (by decide) (fun c14 => ?_) (fun c14 => ?_)
    · skip
      refine jv_iconst hx hb dX5_ratio_26 ?_
      refine lv_goto (tgt := 31) hx hb dX5_ratio_27 (by decide) ?_
      exact JC 1 (by omega) _ _ _ (hP.sub [12, 0, 1, 2, 3, 4, 5, 6, 7, 8, 9, 10, 11] rfl) (hD.sub [12, 0, 1, 2, 3, 4, 5, 6, 7, 8, 9, 10, 11] (by decide) rfl) hS (lv_sub hl [0, 1, 2, 3] rfl)
    · skip
      refine lv_iload_n hx hb dX5_ratio_17 rfl (lv_at hl 3 rfl) ?_
      refine jv_if_lt (tgt := 26) hx hb ⟨by omega, by omega⟩ dX5_ratio_18 (by decide) (fun c18 => ?_) (fun c18 => ?_)
      · skip
        refine jv_iconst hx hb dX5_ratio_26 ?_
        refine lv_goto (tgt := 31) hx hb dX5_ratio_27 (by decide) ?_
        exact JC 1 (by omega) _ _ _ (hP.sub [12, 0, 1, 2, 3, 4, 5, 6, 7, 8, 9, 10, 11] rfl) (hD.sub [12, 0, 1, 2, 3, 4, 5, 6, 7, 8, 9, 10, 11] (by decide) rfl) hS (lv_sub hl [0, 1, 2, 3] rfl)
      · skip
        refine lv_iload_n hx hb dX5_ratio_21 rfl (lv_at hl 3 rfl) ?_
        refine jv_iconst hx hb dX5_ratio_22 ?_
        refine jv_icmp_le (tgt := 30) hx hb ⟨by omega, by omega⟩ ⟨by decide, by decide⟩ dX5_ratio_23 (by decide) (fun c23 => ?_) (fun c23 => ?_)
        · skip
          refine jv_iconst hx hb dX5_ratio_30 ?_
          exact JC 0 (by omega) _ _ _ (hP.sub [12, 0, 1, 2, 3, 4, 5, 6, 7, 8, 9, 10, 11] rfl) (hD.sub [12, 0, 1, 2, 3, 4, 5, 6, 7, 8, 9, 10, 11] (by decide) rfl) hS (lv_sub hl [0, 1, 2, 3] rfl)
        · skip
          refine jv_iconst hx hb dX5_ratio_26 ?_
          refine lv_goto (tgt := 31) hx hb dX5_ratio_27 (by decide) ?_
          exact JC 1 (by omega) _ _ _ (hP.sub [12, 0, 1, 2, 3, 4, 5, 6, 7, 8, 9, 10, 11] rfl) (hD.sub [12, 0, 1, 2, 3, 4, 5, 6, 7, 8, 9, 10, 11] (by decide) rfl) hS (lv_sub hl [0, 1, 2, 3] rfl)

set_option maxHeartbeats 4000000 in
set_option maxRecDepth 100000 in
/-- density -/
theorem tX5_density (l : Launch) (D : va_G) (g : ClassId × ClassId × ClassId) (hm : Nat) (md : Nat → Nat) (co : Int) (ly : Int) (nt : Int) (ns : Int) (nd : Int) (np : Int) (nq : Int) (tq : Int) (sn : Int → Int) (sl : Int → Int) (bo : Int → Int) (L : List jQ) (qn : Int → Int) (qs : Int → Int) (qx : Int → Int) (qy : Int → Int) (DD : List jD) (rl : Int → Int) (rx : Int → Int) (ry : Int → Int) (rs : Int → Int) (LP : List jQ) (mf : Int → Int64) (layer : Int) (v9 : Int) (u9 : Int) (part : Int) (hms : msI sn sl bo ns L) (hns : ns ≤ 200) (hmd : mdI qn qs qx qy np DD) (hnp : np ≤ 60) (hmp : mpI rl rx ry rs nq LP) (hnq : nq ≤ 1500) (hly : 1 ≤ ly ∧ ly ≤ 64) (hri : rI layer ∧ rL v9 ∧ rL u9 ∧ rI part) : jMl l D g yX5_density wsX5_density 6 200 [.ref hm, .int (jI layer), .long (jL v9), .long (jL u9), .int (jI part)] [(hm, .inr (5, [.int (jI co), .int (jI ly), .int (jI nt), .ref (md 3), .int (jI ns), .ref (md 5), .ref (md 6), .ref (md 7), .int (jI nd), .ref (md 9), .ref (md 10), .ref (md 11), .int (jI np), .ref (md 13), .ref (md 14), .ref (md 15), .ref (md 16), .ref (md 17), .ref (md 18), .ref (md 19), .ref (md 20), .int (jI nq), .ref (md 22), .ref (md 23), .ref (md 24), .ref (md 25), .ref (md 26), .int (jI tq), .ref (md 28), .ref (md 29), .ref (md 30)])), ((md 5), .inl (g.1, 200, .inl (aI sn))), ((md 6), .inl (g.1, 200, .inl (aI sl))), ((md 7), .inl (g.1, 800, .inl (aI bo))), ((md 13), .inl (g.1, 60, .inl (aI qn))), ((md 14), .inl (g.1, 60, .inl (aI qs))), ((md 15), .inl (g.1, 60, .inl (aI qx))), ((md 16), .inl (g.1, 60, .inl (aI qy))), ((md 22), .inl (g.1, 1500, .inl (aI rl))), ((md 23), .inl (g.1, 1500, .inl (aI rx))), ((md 24), .inl (g.1, 1500, .inl (aI ry))), ((md 25), .inl (g.1, 1500, .inl (aI rs))), ((md 29), .inl (g.2.1, 16000, .inr (.inl (aW mf))))] (S := Int × (Int → Int64)) (fun z u => (u.1 = 1 ∧ ¬ ((0 ≤ layer ∧ layer < ly) ∧ (0 ≤ part ∧ part < 2))) ∨ (u.1 = 2 ∧ ((0 ≤ layer ∧ layer < ly) ∧ (0 ≤ part ∧ part < 2)) ∧ ¬ (0 ≤ v9 ∧ v9 ≤ 800 ∧ 0 ≤ u9 ∧ u9 ≤ 800)) ∨ (u.1 = 0 ∧ ((0 ≤ layer ∧ layer < ly) ∧ (0 ≤ part ∧ part < 2)) ∧ (0 ≤ v9 ∧ v9 ≤ 800 ∧ 0 ≤ u9 ∧ u9 ≤ 800) ∧ z = jL (lowt (wcn L (DD.map fun d => d.1) LP layer v9 u9) 40000 part))) (fun u => [(hm, .inr (5, [.int (jI u.1), .int (jI ly), .int (jI nt), .ref (md 3), .int (jI ns), .ref (md 5), .ref (md 6), .ref (md 7), .int (jI nd), .ref (md 9), .ref (md 10), .ref (md 11), .int (jI np), .ref (md 13), .ref (md 14), .ref (md 15), .ref (md 16), .ref (md 17), .ref (md 18), .ref (md 19), .ref (md 20), .int (jI nq), .ref (md 22), .ref (md 23), .ref (md 24), .ref (md 25), .ref (md 26), .int (jI tq), .ref (md 28), .ref (md 29), .ref (md 30)])), ((md 5), .inl (g.1, 200, .inl (aI sn))), ((md 6), .inl (g.1, 200, .inl (aI sl))), ((md 7), .inl (g.1, 800, .inl (aI bo))), ((md 13), .inl (g.1, 60, .inl (aI qn))), ((md 14), .inl (g.1, 60, .inl (aI qs))), ((md 15), .inl (g.1, 60, .inl (aI qx))), ((md 16), .inl (g.1, 60, .inl (aI qy))), ((md 22), .inl (g.1, 1500, .inl (aI rl))), ((md 23), .inl (g.1, 1500, .inl (aI rx))), ((md 24), .inl (g.1, 1500, .inl (aI ry))), ((md 25), .inl (g.1, 1500, .inl (aI rs))), ((md 29), .inl (g.2.1, 16000, .inr (.inl (aW u.2))))]) := by
  refine jMl_of (cc := cX5_density) (maxL := 7) (by decide) rfl (Nat.le_of_ble_eq_true rfl) ?_
  intro p e s m args below meth c Q A hx hb hml hts hown hK hA hret ls hl hP hD
  have hS : va_S A s.heap s.heap [] := va_S.rf
  have hown : s.vm.findClass RX5 = some m.cls := hown
  have f84 := hts (.fieldLink RX5 84 "AntennaFillModel" "code" "I") (by decide +kernel)
  have inX5 : ∀ w ∈ wsX50, w ∈ wsX5_density := by decide +kernel
  have k179 := hts (.constantLong RX5 179 (800)) (by decide +kernel)
  have k185 := hts (.constantLong RX5 185 (40000)) (by decide +kernel)
  have hl : lv_has ls 7 [(0, .ref hm), (1, .int (jI layer)), (2, .long (jL v9)), (4, .long (jL u9)), (6, .int (jI part))] := hl
  have JC : ∀ (cv9 : Int), ((cv9 = 1 ∧ ¬ ((0 ≤ layer ∧ layer < ly) ∧ (0 ≤ part ∧ part < 2))) ∨ (cv9 = 2 ∧ ((0 ≤ layer ∧ layer < ly) ∧ (0 ≤ part ∧ part < 2)) ∧ ¬ (0 ≤ v9 ∧ v9 ≤ 800 ∧ 0 ≤ u9 ∧ u9 ≤ 800)) ∨ (cv9 = 0 ∧ ((0 ≤ layer ∧ layer < ly) ∧ (0 ≤ part ∧ part < 2)) ∧ (0 ≤ v9 ∧ v9 ≤ 800 ∧ 0 ≤ u9 ∧ u9 ≤ 800))) → ∀ (H : Heap) (locs : List Loc) (ls : Array Slot), va_P D jcl [(hm, .inr (5, [.int (jI co), .int (jI ly), .int (jI nt), .ref (md 3), .int (jI ns), .ref (md 5), .ref (md 6), .ref (md 7), .int (jI nd), .ref (md 9), .ref (md 10), .ref (md 11), .int (jI np), .ref (md 13), .ref (md 14), .ref (md 15), .ref (md 16), .ref (md 17), .ref (md 18), .ref (md 19), .ref (md 20), .int (jI nq), .ref (md 22), .ref (md 23), .ref (md 24), .ref (md 25), .ref (md 26), .int (jI tq), .ref (md 28), .ref (md 29), .ref (md 30)])), ((md 5), .inl (g.1, 200, .inl (aI sn))), ((md 6), .inl (g.1, 200, .inl (aI sl))), ((md 7), .inl (g.1, 800, .inl (aI bo))), ((md 13), .inl (g.1, 60, .inl (aI qn))), ((md 14), .inl (g.1, 60, .inl (aI qs))), ((md 15), .inl (g.1, 60, .inl (aI qx))), ((md 16), .inl (g.1, 60, .inl (aI qy))), ((md 22), .inl (g.1, 1500, .inl (aI rl))), ((md 23), .inl (g.1, 1500, .inl (aI rx))), ((md 24), .inl (g.1, 1500, .inl (aI ry))), ((md 25), .inl (g.1, 1500, .inl (aI rs))), ((md 29), .inl (g.2.1, 16000, .inr (.inl (aW mf))))] H → va_D A [(hm, .inr (5, [.int (jI co), .int (jI ly), .int (jI nt), .ref (md 3), .int (jI ns), .ref (md 5), .ref (md 6), .ref (md 7), .int (jI nd), .ref (md 9), .ref (md 10), .ref (md 11), .int (jI np), .ref (md 13), .ref (md 14), .ref (md 15), .ref (md 16), .ref (md 17), .ref (md 18), .ref (md 19), .ref (md 20), .int (jI nq), .ref (md 22), .ref (md 23), .ref (md 24), .ref (md 25), .ref (md 26), .int (jI tq), .ref (md 28), .ref (md 29), .ref (md 30)])), ((md 5), .inl (g.1, 200, .inl (aI sn))), ((md 6), .inl (g.1, 200, .inl (aI sl))), ((md 7), .inl (g.1, 800, .inl (aI bo))), ((md 13), .inl (g.1, 60, .inl (aI qn))), ((md 14), .inl (g.1, 60, .inl (aI qs))), ((md 15), .inl (g.1, 60, .inl (aI qx))), ((md 16), .inl (g.1, 60, .inl (aI qy))), ((md 22), .inl (g.1, 1500, .inl (aI rl))), ((md 23), .inl (g.1, 1500, .inl (aI rx))), ((md 24), .inl (g.1, 1500, .inl (aI ry))), ((md 25), .inl (g.1, 1500, .inl (aI rs))), ((md 29), .inl (g.2.1, 16000, .inr (.inl (aW mf))))] → va_S A s.heap H locs → lv_has ls 7 [(0, .ref hm), (1, .int (jI layer)), (2, .long (jL v9)), (4, .long (jL u9)), (6, .int (jI part))] → W p l e (jR 6 200) s m args below meth c H locs 0 0 Q (F0 m 59 ls [.int (jI cv9), .ref hm]) := by
    intro cv9 hcv H locs ls hP hD hS hl
    refine va_put (D := D) (ci := 5) (v := .int (jI cv9)) (ty := .int) (C := RX5) (T := TX5) (N := 31) hx hb hts inX5 tyX5 tyX5_ok nmX5 hown hK hP hD hS 0 rfl rfl 0 (by decide) f84 (fun _ h9 => h9) rfl (by decide +kernel) rfl rfl (Nat.le_of_ble_eq_true rfl) dX5_density_59 (fun H locs hP hD hS => ?_)
    have hP : va_P D jcl [(hm, .inr (5, [.int (jI cv9), .int (jI ly), .int (jI nt), .ref (md 3), .int (jI ns), .ref (md 5), .ref (md 6), .ref (md 7), .int (jI nd), .ref (md 9), .ref (md 10), .ref (md 11), .int (jI np), .ref (md 13), .ref (md 14), .ref (md 15), .ref (md 16), .ref (md 17), .ref (md 18), .ref (md 19), .ref (md 20), .int (jI nq), .ref (md 22), .ref (md 23), .ref (md 24), .ref (md 25), .ref (md 26), .int (jI tq), .ref (md 28), .ref (md 29), .ref (md 30)])), ((md 5), .inl (g.1, 200, .inl (aI sn))), ((md 6), .inl (g.1, 200, .inl (aI sl))), ((md 7), .inl (g.1, 800, .inl (aI bo))), ((md 13), .inl (g.1, 60, .inl (aI qn))), ((md 14), .inl (g.1, 60, .inl (aI qs))), ((md 15), .inl (g.1, 60, .inl (aI qx))), ((md 16), .inl (g.1, 60, .inl (aI qy))), ((md 22), .inl (g.1, 1500, .inl (aI rl))), ((md 23), .inl (g.1, 1500, .inl (aI rx))), ((md 24), .inl (g.1, 1500, .inl (aI ry))), ((md 25), .inl (g.1, 1500, .inl (aI rs))), ((md 29), .inl (g.2.1, 16000, .inr (.inl (aW mf))))] H := hP
    have hD : va_D A [(hm, .inr (5, [.int (jI cv9), .int (jI ly), .int (jI nt), .ref (md 3), .int (jI ns), .ref (md 5), .ref (md 6), .ref (md 7), .int (jI nd), .ref (md 9), .ref (md 10), .ref (md 11), .int (jI np), .ref (md 13), .ref (md 14), .ref (md 15), .ref (md 16), .ref (md 17), .ref (md 18), .ref (md 19), .ref (md 20), .int (jI nq), .ref (md 22), .ref (md 23), .ref (md 24), .ref (md 25), .ref (md 26), .int (jI tq), .ref (md 28), .ref (md 29), .ref (md 30)])), ((md 5), .inl (g.1, 200, .inl (aI sn))), ((md 6), .inl (g.1, 200, .inl (aI sl))), ((md 7), .inl (g.1, 800, .inl (aI bo))), ((md 13), .inl (g.1, 60, .inl (aI qn))), ((md 14), .inl (g.1, 60, .inl (aI qs))), ((md 15), .inl (g.1, 60, .inl (aI qx))), ((md 16), .inl (g.1, 60, .inl (aI qy))), ((md 22), .inl (g.1, 1500, .inl (aI rl))), ((md 23), .inl (g.1, 1500, .inl (aI rx))), ((md 24), .inl (g.1, 1500, .inl (aI ry))), ((md 25), .inl (g.1, 1500, .inl (aI rs))), ((md 29), .inl (g.2.1, 16000, .inr (.inl (aW mf))))] := hD
    refine lv_aload_n hx hb dX5_density_62 rfl (lv_at hl 0 rfl) ?_
    refine va_get (D := D) (ci := 5) (v := .int (jI cv9)) (C := RX5) (T := TX5) (N := 31) hx hb hts inX5 hown hK hP 0 rfl rfl 0 (by decide) f84 (fun _ h9 => h9) rfl dX5_density_63 ?_
    refine jv_if_le (tgt := 71) hx hb ⟨by omega, by omega⟩ dX5_density_66 (by decide) (fun c66 => ?_) (fun c66 => ?_)
    · skip
      refine lv_aload_n hx hb dX5_density_71 rfl (lv_at hl 0 rfl) ?_
      refine lv_iload_n hx hb dX5_density_72 rfl (lv_at hl 1 rfl) ?_
      refine jc_Vv (As := [.int (jI layer)]) (rest := []) (wq := []) ⟨hx, hb, hml, hown, hts⟩ (tX5_cover l D g hm md cv9 ly nt ns nd np nq tq sn sl bo L qn qs qx qy DD rl rx ry rs LP mf layer (hms) (hns) (hmd) (hnp) (hmp) (hnq) (⟨by omega, by omega⟩)) (cwV 1 hts gX5_density_X5_cover rfl rfl rfl (by decide +kernel) ⟨Nat.le_of_ble_eq_true rfl, Nat.le_of_ble_eq_true rfl⟩) hK hP hD hS hA [0, 1, 2, 3, 4, 5, 6, 7, 8, 9, 10, 11, 12] [] rfl rfl (by decide) (by decide) (by decide) (va_recv hK hP (ci := 5) (q0 := 0) rfl rfl) rfl rfl hl.1 (Nat.le_of_ble_eq_true rfl) dX5_density_73 ⟨Nat.le_of_ble_eq_true rfl, Nat.le_of_ble_eq_true rfl⟩ (fun u H locs hu hP hD hS => ?_)
      obtain ⟨mf2, rfl⟩ : ∃ z9, z9 = u := ⟨_, rfl⟩
      have hu : mkE mf2 (covL (lcv L (DD.map fun d => d.1) LP layer)) := hu
      have hcv9 := hu
      have hP : va_P D jcl [(hm, .inr (5, [.int (jI cv9), .int (jI ly), .int (jI nt), .ref (md 3), .int (jI ns), .ref (md 5), .ref (md 6), .ref (md 7), .int (jI nd), .ref (md 9), .ref (md 10), .ref (md 11), .int (jI np), .ref (md 13), .ref (md 14), .ref (md 15), .ref (md 16), .ref (md 17), .ref (md 18), .ref (md 19), .ref (md 20), .int (jI nq), .ref (md 22), .ref (md 23), .ref (md 24), .ref (md 25), .ref (md 26), .int (jI tq), .ref (md 28), .ref (md 29), .ref (md 30)])), ((md 5), .inl (g.1, 200, .inl (aI sn))), ((md 6), .inl (g.1, 200, .inl (aI sl))), ((md 7), .inl (g.1, 800, .inl (aI bo))), ((md 13), .inl (g.1, 60, .inl (aI qn))), ((md 14), .inl (g.1, 60, .inl (aI qs))), ((md 15), .inl (g.1, 60, .inl (aI qx))), ((md 16), .inl (g.1, 60, .inl (aI qy))), ((md 22), .inl (g.1, 1500, .inl (aI rl))), ((md 23), .inl (g.1, 1500, .inl (aI rx))), ((md 24), .inl (g.1, 1500, .inl (aI ry))), ((md 25), .inl (g.1, 1500, .inl (aI rs))), ((md 29), .inl (g.2.1, 16000, .inr (.inl (aW mf2))))] H := hP
      have hD : va_D A [(hm, .inr (5, [.int (jI cv9), .int (jI ly), .int (jI nt), .ref (md 3), .int (jI ns), .ref (md 5), .ref (md 6), .ref (md 7), .int (jI nd), .ref (md 9), .ref (md 10), .ref (md 11), .int (jI np), .ref (md 13), .ref (md 14), .ref (md 15), .ref (md 16), .ref (md 17), .ref (md 18), .ref (md 19), .ref (md 20), .int (jI nq), .ref (md 22), .ref (md 23), .ref (md 24), .ref (md 25), .ref (md 26), .int (jI tq), .ref (md 28), .ref (md 29), .ref (md 30)])), ((md 5), .inl (g.1, 200, .inl (aI sn))), ((md 6), .inl (g.1, 200, .inl (aI sl))), ((md 7), .inl (g.1, 800, .inl (aI bo))), ((md 13), .inl (g.1, 60, .inl (aI qn))), ((md 14), .inl (g.1, 60, .inl (aI qs))), ((md 15), .inl (g.1, 60, .inl (aI qx))), ((md 16), .inl (g.1, 60, .inl (aI qy))), ((md 22), .inl (g.1, 1500, .inl (aI rl))), ((md 23), .inl (g.1, 1500, .inl (aI rx))), ((md 24), .inl (g.1, 1500, .inl (aI ry))), ((md 25), .inl (g.1, 1500, .inl (aI rs))), ((md 29), .inl (g.2.1, 16000, .inr (.inl (aW mf2))))] := hD
      refine lv_aload_n hx hb dX5_density_76 rfl (lv_at hl 0 rfl) ?_
      refine lv_lload_n hx hb dX5_density_77 rfl (lv_at hl 2 rfl) ?_
      refine jv_l2i hx hb dX5_density_78 ?_
      refine lv_lload hx hb dX5_density_79 (lv_at hl 3 rfl) ?_
      refine jv_l2i hx hb dX5_density_81 ?_
      refine lv_lload_n hx hb dX5_density_82 rfl (lv_at hl 2 rfl) ?_
      refine jv_l2i hx hb dX5_density_83 ?_
      refine jv_sipush hx hb (by decide) dX5_density_84 ?_
      refine jv_iadd hx hb dX5_density_87 ?_
      refine lv_lload hx hb dX5_density_88 (lv_at hl 3 rfl) ?_
      refine jv_l2i hx hb dX5_density_90 ?_
      refine jv_sipush hx hb (by decide) dX5_density_91 ?_
      refine jv_iadd hx hb dX5_density_94 ?_
      refine jc_Vi (As := [.int (jI v9), .int (jI u9), .int (jI (v9 + 200)), .int (jI (u9 + 200))]) (rest := []) (wq := [((md 5), .inl (g.1, 200, .inl (aI sn))), ((md 6), .inl (g.1, 200, .inl (aI sl))), ((md 7), .inl (g.1, 800, .inl (aI bo))), ((md 13), .inl (g.1, 60, .inl (aI qn))), ((md 14), .inl (g.1, 60, .inl (aI qs))), ((md 15), .inl (g.1, 60, .inl (aI qx))), ((md 16), .inl (g.1, 60, .inl (aI qy))), ((md 22), .inl (g.1, 1500, .inl (aI rl))), ((md 23), .inl (g.1, 1500, .inl (aI rx))), ((md 24), .inl (g.1, 1500, .inl (aI ry))), ((md 25), .inl (g.1, 1500, .inl (aI rs)))]) ⟨hx, hb, hml, hown, hts⟩ (tX5_marked l D g hm md cv9 ly nt ns nd np nq tq mf2 v9 u9 (v9 + 200) (u9 + 200) (by omega)) (cwV 4 hts gX5_density_X5_marked rfl rfl rfl (by decide +kernel) ⟨Nat.le_of_ble_eq_true rfl, Nat.le_of_ble_eq_true rfl⟩) hK hP hD hS hA [0, 12] [1, 2, 3, 4, 5, 6, 7, 8, 9, 10, 11] rfl rfl (by decide) (by decide) (by decide) (va_recv hK hP (ci := 5) (q0 := 0) rfl rfl) rfl rfl hl.1 (Nat.le_of_ble_eq_true rfl) dX5_density_95 ⟨Nat.le_of_ble_eq_true rfl, Nat.le_of_ble_eq_true rfl⟩ (fun zm9 u H locs hu hP hD hS => ?_)
      have hu : zm9 = cm (mk mf2) v9 (v9 + 200) u9 (u9 + 200) := hu
      have hzm := hu
      have hP : va_P D jcl [((md 5), .inl (g.1, 200, .inl (aI sn))), ((md 6), .inl (g.1, 200, .inl (aI sl))), ((md 7), .inl (g.1, 800, .inl (aI bo))), ((md 13), .inl (g.1, 60, .inl (aI qn))), ((md 14), .inl (g.1, 60, .inl (aI qs))), ((md 15), .inl (g.1, 60, .inl (aI qx))), ((md 16), .inl (g.1, 60, .inl (aI qy))), ((md 22), .inl (g.1, 1500, .inl (aI rl))), ((md 23), .inl (g.1, 1500, .inl (aI rx))), ((md 24), .inl (g.1, 1500, .inl (aI ry))), ((md 25), .inl (g.1, 1500, .inl (aI rs))), (hm, .inr (5, [.int (jI cv9), .int (jI ly), .int (jI nt), .ref (md 3), .int (jI ns), .ref (md 5), .ref (md 6), .ref (md 7), .int (jI nd), .ref (md 9), .ref (md 10), .ref (md 11), .int (jI np), .ref (md 13), .ref (md 14), .ref (md 15), .ref (md 16), .ref (md 17), .ref (md 18), .ref (md 19), .ref (md 20), .int (jI nq), .ref (md 22), .ref (md 23), .ref (md 24), .ref (md 25), .ref (md 26), .int (jI tq), .ref (md 28), .ref (md 29), .ref (md 30)])), ((md 29), .inl (g.2.1, 16000, .inr (.inl (aW mf2))))] H := hP
      have hD : va_D A [((md 5), .inl (g.1, 200, .inl (aI sn))), ((md 6), .inl (g.1, 200, .inl (aI sl))), ((md 7), .inl (g.1, 800, .inl (aI bo))), ((md 13), .inl (g.1, 60, .inl (aI qn))), ((md 14), .inl (g.1, 60, .inl (aI qs))), ((md 15), .inl (g.1, 60, .inl (aI qx))), ((md 16), .inl (g.1, 60, .inl (aI qy))), ((md 22), .inl (g.1, 1500, .inl (aI rl))), ((md 23), .inl (g.1, 1500, .inl (aI rx))), ((md 24), .inl (g.1, 1500, .inl (aI ry))), ((md 25), .inl (g.1, 1500, .inl (aI rs))), (hm, .inr (5, [.int (jI cv9), .int (jI ly), .int (jI nt), .ref (md 3), .int (jI ns), .ref (md 5), .ref (md 6), .ref (md 7), .int (jI nd), .ref (md 9), .ref (md 10), .ref (md 11), .int (jI np), .ref (md 13), .ref (md 14), .ref (md 15), .ref (md 16), .ref (md 17), .ref (md 18), .ref (md 19), .ref (md 20), .int (jI nq), .ref (md 22), .ref (md 23), .ref (md 24), .ref (md 25), .ref (md 26), .int (jI tq), .ref (md 28), .ref (md 29), .ref (md 30)])), ((md 29), .inl (g.2.1, 16000, .inr (.inl (aW mf2))))] := hD
      have hwc := wcn_bd L (DD.map fun d => d.1) LP layer v9 u9
      have hzw : zm9 = wcn L (DD.map fun d => d.1) LP layer v9 u9 := by
        rw [hzm]
        exact mkE_cm hcv9 (by omega) (by omega) (by omega) (by omega)
      refine jv_i2l hx hb ⟨by omega, by omega⟩ dX5_density_98 ?_
      refine jv_ldc2 (n := 40000) hx hb (by decide) hown k185 dX5_density_99 ?_
      refine lv_iload hx hb dX5_density_102 (lv_at hl 4 rfl) ?_
      refine jc_Sl (As := [.long (jL zm9), .long (jL 40000), .int (jI part)]) (rest := []) (wq := [((md 5), .inl (g.1, 200, .inl (aI sn))), ((md 6), .inl (g.1, 200, .inl (aI sl))), ((md 7), .inl (g.1, 800, .inl (aI bo))), ((md 13), .inl (g.1, 60, .inl (aI qn))), ((md 14), .inl (g.1, 60, .inl (aI qs))), ((md 15), .inl (g.1, 60, .inl (aI qx))), ((md 16), .inl (g.1, 60, .inl (aI qy))), ((md 22), .inl (g.1, 1500, .inl (aI rl))), ((md 23), .inl (g.1, 1500, .inl (aI rx))), ((md 24), .inl (g.1, 1500, .inl (aI ry))), ((md 25), .inl (g.1, 1500, .inl (aI rs))), (hm, .inr (5, [.int (jI cv9), .int (jI ly), .int (jI nt), .ref (md 3), .int (jI ns), .ref (md 5), .ref (md 6), .ref (md 7), .int (jI nd), .ref (md 9), .ref (md 10), .ref (md 11), .int (jI np), .ref (md 13), .ref (md 14), .ref (md 15), .ref (md 16), .ref (md 17), .ref (md 18), .ref (md 19), .ref (md 20), .int (jI nq), .ref (md 22), .ref (md 23), .ref (md 24), .ref (md 25), .ref (md 26), .int (jI tq), .ref (md 28), .ref (md 29), .ref (md 30)])), ((md 29), .inl (g.2.1, 16000, .inr (.inl (aW mf2))))]) ⟨hx, hb, hml, hown, hts⟩ (tX5_part l D g zm9 40000 part (⟨by omega, by omega⟩) (⟨by decide, by decide⟩) (hri.2.2.2)) (va_cwS 3 hts gX5_density_X5_part rfl rfl rfl (by decide +kernel) ⟨Nat.le_of_ble_eq_true rfl, Nat.le_of_ble_eq_true rfl⟩) hK hP hD hS hA [] [0, 1, 2, 3, 4, 5, 6, 7, 8, 9, 10, 11, 12] rfl rfl (by decide) (by decide) (by decide) rfl rfl hl.1 (Nat.le_of_ble_eq_true rfl) dX5_density_104 ⟨Nat.le_of_ble_eq_true rfl, Nat.le_of_ble_eq_true rfl⟩ (fun zp9 u H locs hu hP hD hS => ?_)
      have hu : zp9 = jL (lowt zm9 40000 part) := hu
      have hzp := hu
      have hP : va_P D jcl [((md 5), .inl (g.1, 200, .inl (aI sn))), ((md 6), .inl (g.1, 200, .inl (aI sl))), ((md 7), .inl (g.1, 800, .inl (aI bo))), ((md 13), .inl (g.1, 60, .inl (aI qn))), ((md 14), .inl (g.1, 60, .inl (aI qs))), ((md 15), .inl (g.1, 60, .inl (aI qx))), ((md 16), .inl (g.1, 60, .inl (aI qy))), ((md 22), .inl (g.1, 1500, .inl (aI rl))), ((md 23), .inl (g.1, 1500, .inl (aI rx))), ((md 24), .inl (g.1, 1500, .inl (aI ry))), ((md 25), .inl (g.1, 1500, .inl (aI rs))), (hm, .inr (5, [.int (jI cv9), .int (jI ly), .int (jI nt), .ref (md 3), .int (jI ns), .ref (md 5), .ref (md 6), .ref (md 7), .int (jI nd), .ref (md 9), .ref (md 10), .ref (md 11), .int (jI np), .ref (md 13), .ref (md 14), .ref (md 15), .ref (md 16), .ref (md 17), .ref (md 18), .ref (md 19), .ref (md 20), .int (jI nq), .ref (md 22), .ref (md 23), .ref (md 24), .ref (md 25), .ref (md 26), .int (jI tq), .ref (md 28), .ref (md 29), .ref (md 30)])), ((md 29), .inl (g.2.1, 16000, .inr (.inl (aW mf2))))] H := hP
      have hD : va_D A [((md 5), .inl (g.1, 200, .inl (aI sn))), ((md 6), .inl (g.1, 200, .inl (aI sl))), ((md 7), .inl (g.1, 800, .inl (aI bo))), ((md 13), .inl (g.1, 60, .inl (aI qn))), ((md 14), .inl (g.1, 60, .inl (aI qs))), ((md 15), .inl (g.1, 60, .inl (aI qx))), ((md 16), .inl (g.1, 60, .inl (aI qy))), ((md 22), .inl (g.1, 1500, .inl (aI rl))), ((md 23), .inl (g.1, 1500, .inl (aI rx))), ((md 24), .inl (g.1, 1500, .inl (aI ry))), ((md 25), .inl (g.1, 1500, .inl (aI rs))), (hm, .inr (5, [.int (jI cv9), .int (jI ly), .int (jI nt), .ref (md 3), .int (jI ns), .ref (md 5), .ref (md 6), .ref (md 7), .int (jI nd), .ref (md 9), .ref (md 10), .ref (md 11), .int (jI np), .ref (md 13), .ref (md 14), .ref (md 15), .ref (md 16), .ref (md 17), .ref (md 18), .ref (md 19), .ref (md 20), .int (jI nq), .ref (md 22), .ref (md 23), .ref (md 24), .ref (md 25), .ref (md 26), .int (jI tq), .ref (md 28), .ref (md 29), .ref (md 30)])), ((md 29), .inl (g.2.1, 16000, .inr (.inl (aW mf2))))] := hD
      exact hret zp9 (cv9, mf2) _ _ _ _ (Or.inr (Or.inr ⟨by show cv9 = 0; omega, by omega, by omega, by rw [hzp, hzw]⟩)) (hP.sub [11, 0, 1, 2, 3, 4, 5, 6, 7, 8, 9, 10, 12] rfl) (hD.sub [11, 0, 1, 2, 3, 4, 5, 6, 7, 8, 9, 10, 12] (by decide) rfl) hS dX5_density_107
    · skip
      refine jv_lconst0 hx hb dX5_density_69 ?_
      exact hret (jL 0) (cv9, mf) _ _ _ _ (by
        have : (cv9 = 1 ∧ ¬ ((0 ≤ layer ∧ layer < ly) ∧ (0 ≤ part ∧ part < 2))) ∨ (cv9 = 2 ∧ ((0 ≤ layer ∧ layer < ly) ∧ (0 ≤ part ∧ part < 2)) ∧ ¬ (0 ≤ v9 ∧ v9 ≤ 800 ∧ 0 ≤ u9 ∧ u9 ≤ 800)) := by omega
        rcases this with q9 | q9
        · exact Or.inl q9
        · exact Or.inr (Or.inl q9)) (hP.sub [0, 1, 2, 3, 4, 5, 6, 7, 8, 9, 10, 11, 12] rfl) (hD.sub [0, 1, 2, 3, 4, 5, 6, 7, 8, 9, 10, 11, 12] (by decide) rfl) hS dX5_density_70
  refine lv_aload_n hx hb dX5_density_0 rfl (lv_at hl 0 rfl) ?_
  refine lv_aload_n hx hb dX5_density_1 rfl (lv_at hl 0 rfl) ?_
  refine lv_iload_n hx hb dX5_density_2 rfl (lv_at hl 1 rfl) ?_
  refine jc_Vi (As := [.int (jI layer)]) (rest := [.ref hm]) (wq := [((md 5), .inl (g.1, 200, .inl (aI sn))), ((md 6), .inl (g.1, 200, .inl (aI sl))), ((md 7), .inl (g.1, 800, .inl (aI bo))), ((md 13), .inl (g.1, 60, .inl (aI qn))), ((md 14), .inl (g.1, 60, .inl (aI qs))), ((md 15), .inl (g.1, 60, .inl (aI qx))), ((md 16), .inl (g.1, 60, .inl (aI qy))), ((md 22), .inl (g.1, 1500, .inl (aI rl))), ((md 23), .inl (g.1, 1500, .inl (aI rx))), ((md 24), .inl (g.1, 1500, .inl (aI ry))), ((md 25), .inl (g.1, 1500, .inl (aI rs))), ((md 29), .inl (g.2.1, 16000, .inr (.inl (aW mf))))]) ⟨hx, hb, hml, hown, hts⟩ (tX5_isLayer l D g hm md co ly nt ns nd np nq tq layer (⟨⟨by omega, by omega⟩, by omega, by omega⟩)) (cwV 1 hts gX5_density_X5_isLayer rfl rfl rfl (by decide +kernel) ⟨Nat.le_of_ble_eq_true rfl, Nat.le_of_ble_eq_true rfl⟩) hK hP hD hS hA [0] [1, 2, 3, 4, 5, 6, 7, 8, 9, 10, 11, 12] rfl rfl (by decide) (by decide) (by decide) (va_recv hK hP (ci := 5) (q0 := 0) rfl rfl) rfl rfl hl.1 (Nat.le_of_ble_eq_true rfl) dX5_density_3 ⟨Nat.le_of_ble_eq_true rfl, Nat.le_of_ble_eq_true rfl⟩ (fun zl9 u H locs hu hP hD hS => ?_)
  have hu : (zl9 = 1 ∧ (0 ≤ layer ∧ layer < ly)) ∨ (zl9 = 0 ∧ ¬ (0 ≤ layer ∧ layer < ly)) := hu
  have hzl := hu
  have hP : va_P D jcl [((md 5), .inl (g.1, 200, .inl (aI sn))), ((md 6), .inl (g.1, 200, .inl (aI sl))), ((md 7), .inl (g.1, 800, .inl (aI bo))), ((md 13), .inl (g.1, 60, .inl (aI qn))), ((md 14), .inl (g.1, 60, .inl (aI qs))), ((md 15), .inl (g.1, 60, .inl (aI qx))), ((md 16), .inl (g.1, 60, .inl (aI qy))), ((md 22), .inl (g.1, 1500, .inl (aI rl))), ((md 23), .inl (g.1, 1500, .inl (aI rx))), ((md 24), .inl (g.1, 1500, .inl (aI ry))), ((md 25), .inl (g.1, 1500, .inl (aI rs))), ((md 29), .inl (g.2.1, 16000, .inr (.inl (aW mf)))), (hm, .inr (5, [.int (jI co), .int (jI ly), .int (jI nt), .ref (md 3), .int (jI ns), .ref (md 5), .ref (md 6), .ref (md 7), .int (jI nd), .ref (md 9), .ref (md 10), .ref (md 11), .int (jI np), .ref (md 13), .ref (md 14), .ref (md 15), .ref (md 16), .ref (md 17), .ref (md 18), .ref (md 19), .ref (md 20), .int (jI nq), .ref (md 22), .ref (md 23), .ref (md 24), .ref (md 25), .ref (md 26), .int (jI tq), .ref (md 28), .ref (md 29), .ref (md 30)]))] H := hP
  have hD : va_D A [((md 5), .inl (g.1, 200, .inl (aI sn))), ((md 6), .inl (g.1, 200, .inl (aI sl))), ((md 7), .inl (g.1, 800, .inl (aI bo))), ((md 13), .inl (g.1, 60, .inl (aI qn))), ((md 14), .inl (g.1, 60, .inl (aI qs))), ((md 15), .inl (g.1, 60, .inl (aI qx))), ((md 16), .inl (g.1, 60, .inl (aI qy))), ((md 22), .inl (g.1, 1500, .inl (aI rl))), ((md 23), .inl (g.1, 1500, .inl (aI rx))), ((md 24), .inl (g.1, 1500, .inl (aI ry))), ((md 25), .inl (g.1, 1500, .inl (aI rs))), ((md 29), .inl (g.2.1, 16000, .inr (.inl (aW mf)))), (hm, .inr (5, [.int (jI co), .int (jI ly), .int (jI nt), .ref (md 3), .int (jI ns), .ref (md 5), .ref (md 6), .ref (md 7), .int (jI nd), .ref (md 9), .ref (md 10), .ref (md 11), .int (jI np), .ref (md 13), .ref (md 14), .ref (md 15), .ref (md 16), .ref (md 17), .ref (md 18), .ref (md 19), .ref (md 20), .int (jI nq), .ref (md 22), .ref (md 23), .ref (md 24), .ref (md 25), .ref (md 26), .int (jI tq), .ref (md 28), .ref (md 29), .ref (md 30)]))] := hD
  refine jv_if_eq (tgt := 20) hx hb ⟨by omega, by omega⟩ dX5_density_6 (by decide) (fun c6 => ?_) (fun c6 => ?_)
  · skip
    refine jv_iconst hx hb dX5_density_20 ?_
    refine lv_goto (tgt := 59) hx hb dX5_density_21 (by decide) ?_
    exact JC 1 (by omega) _ _ _ (hP.sub [12, 0, 1, 2, 3, 4, 5, 6, 7, 8, 9, 10, 11] rfl) (hD.sub [12, 0, 1, 2, 3, 4, 5, 6, 7, 8, 9, 10, 11] (by decide) rfl) hS (lv_sub hl [0, 1, 2, 3, 4] rfl)
  · skip
    refine lv_iload hx hb dX5_density_9 (lv_at hl 4 rfl) ?_
    refine jv_if_lt (tgt := 20) hx hb ⟨by omega, by omega⟩ dX5_density_11 (by decide) (fun c11 => ?_) (fun c11 => ?_)
    · skip
      refine jv_iconst hx hb dX5_density_20 ?_
      refine lv_goto (tgt := 59) hx hb dX5_density_21 (by decide) ?_
      exact JC 1 (by omega) _ _ _ (hP.sub [12, 0, 1, 2, 3, 4, 5, 6, 7, 8, 9, 10, 11] rfl) (hD.sub [12, 0, 1, 2, 3, 4, 5, 6, 7, 8, 9, 10, 11] (by decide) rfl) hS (lv_sub hl [0, 1, 2, 3, 4] rfl)
    · skip
      refine lv_iload hx hb dX5_density_14 (lv_at hl 4 rfl) ?_
      refine jv_iconst hx hb dX5_density_16 ?_
      refine jv_icmp_le (tgt := 24) hx hb ⟨by omega, by omega⟩ ⟨by decide, by decide⟩ dX5_density_17 (by decide) (fun c17 => ?_) (fun c17 => ?_)
      · skip
        refine lv_lload_n hx hb dX5_density_24 rfl (lv_at hl 2 rfl) ?_
        refine jv_lconst0 hx hb dX5_density_25 ?_
        refine jv_lcmp_lt (tgt := 54) hx hb ⟨by omega, by omega⟩ ⟨by decide, by decide⟩ dX5_density_26 dX5_density_27 (by decide) (fun c26 => ?_) (fun c26 => ?_)
        · skip
          refine jv_iconst hx hb dX5_density_54 ?_
          refine lv_goto (tgt := 59) hx hb dX5_density_55 (by decide) ?_
          exact JC 2 (by omega) _ _ _ (hP.sub [12, 0, 1, 2, 3, 4, 5, 6, 7, 8, 9, 10, 11] rfl) (hD.sub [12, 0, 1, 2, 3, 4, 5, 6, 7, 8, 9, 10, 11] (by decide) rfl) hS (lv_sub hl [0, 1, 2, 3, 4] rfl)
        · skip
          refine lv_lload_n hx hb dX5_density_30 rfl (lv_at hl 2 rfl) ?_
          refine jv_ldc2 (n := 800) hx hb (by decide) hown k179 dX5_density_31 ?_
          refine jv_lcmp_gt (tgt := 54) hx hb ⟨by omega, by omega⟩ ⟨by decide, by decide⟩ dX5_density_34 dX5_density_35 (by decide) (fun c34 => ?_) (fun c34 => ?_)
          · skip
            refine jv_iconst hx hb dX5_density_54 ?_
            refine lv_goto (tgt := 59) hx hb dX5_density_55 (by decide) ?_
            exact JC 2 (by omega) _ _ _ (hP.sub [12, 0, 1, 2, 3, 4, 5, 6, 7, 8, 9, 10, 11] rfl) (hD.sub [12, 0, 1, 2, 3, 4, 5, 6, 7, 8, 9, 10, 11] (by decide) rfl) hS (lv_sub hl [0, 1, 2, 3, 4] rfl)
          · skip
            refine lv_lload hx hb dX5_density_38 (lv_at hl 3 rfl) ?_
            refine jv_lconst0 hx hb dX5_density_40 ?_
            refine jv_lcmp_lt (tgt := 54) hx hb ⟨by omega, by omega⟩ ⟨by decide, by decide⟩ dX5_density_41 dX5_density_42 (by decide) (fun c41 => ?_) (fun c41 => ?_)
            · skip
              refine jv_iconst hx hb dX5_density_54 ?_
              refine lv_goto (tgt := 59) hx hb dX5_density_55 (by decide) ?_
              exact JC 2 (by omega) _ _ _ (hP.sub [12, 0, 1, 2, 3, 4, 5, 6, 7, 8, 9, 10, 11] rfl) (hD.sub [12, 0, 1, 2, 3, 4, 5, 6, 7, 8, 9, 10, 11] (by decide) rfl) hS (lv_sub hl [0, 1, 2, 3, 4] rfl)
            · skip
              refine lv_lload hx hb dX5_density_45 (lv_at hl 3 rfl) ?_
              refine jv_ldc2 (n := 800) hx hb (by decide) hown k179 dX5_density_47 ?_
              refine jv_lcmp_le (tgt := 58) hx hb ⟨by omega, by omega⟩ ⟨by decide, by decide⟩ dX5_density_50 dX5_density_51 (by decide) (fun c50 => ?_) (fun c50 => ?_)
              · skip
                refine jv_iconst hx hb dX5_density_58 ?_
                exact JC 0 (by omega) _ _ _ (hP.sub [12, 0, 1, 2, 3, 4, 5, 6, 7, 8, 9, 10, 11] rfl) (hD.sub [12, 0, 1, 2, 3, 4, 5, 6, 7, 8, 9, 10, 11] (by decide) rfl) hS (lv_sub hl [0, 1, 2, 3, 4] rfl)
              · skip
                refine jv_iconst hx hb dX5_density_54 ?_
                refine lv_goto (tgt := 59) hx hb dX5_density_55 (by decide) ?_
                exact JC 2 (by omega) _ _ _ (hP.sub [12, 0, 1, 2, 3, 4, 5, 6, 7, 8, 9, 10, 11] rfl) (hD.sub [12, 0, 1, 2, 3, 4, 5, 6, 7, 8, 9, 10, 11] (by decide) rfl) hS (lv_sub hl [0, 1, 2, 3, 4] rfl)
      · skip
        refine jv_iconst hx hb dX5_density_20 ?_
        refine lv_goto (tgt := 59) hx hb dX5_density_21 (by decide) ?_
        exact JC 1 (by omega) _ _ _ (hP.sub [12, 0, 1, 2, 3, 4, 5, 6, 7, 8, 9, 10, 11] rfl) (hD.sub [12, 0, 1, 2, 3, 4, 5, 6, 7, 8, 9, 10, 11] (by decide) rfl) hS (lv_sub hl [0, 1, 2, 3, 4] rfl)

set_option maxHeartbeats 4000000 in
set_option maxRecDepth 100000 in
/-- told -/
theorem tX5_told (l : Launch) (D : va_G) (g : ClassId × ClassId × ClassId) (hm : Nat) (md : Nat → Nat) (co : Int) (ly : Int) (nt : Int) (ns : Int) (nd : Int) (np : Int) (nq : Int) (tq : Int) (tt : Int → Int) (k9 : Int) (htq : 0 ≤ tq ∧ tq ≤ 25) (hri : rI k9) : jMi l D g yX5_told wsX5_told 2 80 [.ref hm, .int (jI k9)] [(hm, .inr (5, [.int (jI co), .int (jI ly), .int (jI nt), .ref (md 3), .int (jI ns), .ref (md 5), .ref (md 6), .ref (md 7), .int (jI nd), .ref (md 9), .ref (md 10), .ref (md 11), .int (jI np), .ref (md 13), .ref (md 14), .ref (md 15), .ref (md 16), .ref (md 17), .ref (md 18), .ref (md 19), .ref (md 20), .int (jI nq), .ref (md 22), .ref (md 23), .ref (md 24), .ref (md 25), .ref (md 26), .int (jI tq), .ref (md 28), .ref (md 29), .ref (md 30)])), ((md 28), .inl (g.1, 25, .inl (aI tt)))] (S := Int) (fun z u => (u = 1 ∧ k9 < 0) ∨ (u = 0 ∧ 0 ≤ k9 ∧ z = (if k9 < tq then tt k9 else -1))) (fun u => [(hm, .inr (5, [.int (jI u), .int (jI ly), .int (jI nt), .ref (md 3), .int (jI ns), .ref (md 5), .ref (md 6), .ref (md 7), .int (jI nd), .ref (md 9), .ref (md 10), .ref (md 11), .int (jI np), .ref (md 13), .ref (md 14), .ref (md 15), .ref (md 16), .ref (md 17), .ref (md 18), .ref (md 19), .ref (md 20), .int (jI nq), .ref (md 22), .ref (md 23), .ref (md 24), .ref (md 25), .ref (md 26), .int (jI tq), .ref (md 28), .ref (md 29), .ref (md 30)])), ((md 28), .inl (g.1, 25, .inl (aI tt)))]) := by
  refine jMi_of (cc := cX5_told) (maxL := 2) (by decide) rfl (Nat.le_of_ble_eq_true rfl) ?_
  intro p e s m args below meth c Q A hx hb hml hts hown hK hA hret ls hl hP hD
  have hS : va_S A s.heap s.heap [] := va_S.rf
  have hown : s.vm.findClass RX5 = some m.cls := hown
  have f71 := hts (.fieldLink RX5 71 "AntennaFillModel" "tiles" "[I") (by decide +kernel)
  have f84 := hts (.fieldLink RX5 84 "AntennaFillModel" "code" "I") (by decide +kernel)
  have f213 := hts (.fieldLink RX5 213 "AntennaFillModel" "toldTiles" "I") (by decide +kernel)
  have inX5 : ∀ w ∈ wsX50, w ∈ wsX5_told := by decide +kernel
  have hl : lv_has ls 2 [(0, .ref hm), (1, .int (jI k9))] := hl
  have JC : ∀ (cv9 : Int), ((cv9 = 1 ∧ k9 < 0) ∨ (cv9 = 0 ∧ 0 ≤ k9)) → ∀ (H : Heap) (locs : List Loc) (ls : Array Slot), va_P D jcl [(hm, .inr (5, [.int (jI co), .int (jI ly), .int (jI nt), .ref (md 3), .int (jI ns), .ref (md 5), .ref (md 6), .ref (md 7), .int (jI nd), .ref (md 9), .ref (md 10), .ref (md 11), .int (jI np), .ref (md 13), .ref (md 14), .ref (md 15), .ref (md 16), .ref (md 17), .ref (md 18), .ref (md 19), .ref (md 20), .int (jI nq), .ref (md 22), .ref (md 23), .ref (md 24), .ref (md 25), .ref (md 26), .int (jI tq), .ref (md 28), .ref (md 29), .ref (md 30)])), ((md 28), .inl (g.1, 25, .inl (aI tt)))] H → va_D A [(hm, .inr (5, [.int (jI co), .int (jI ly), .int (jI nt), .ref (md 3), .int (jI ns), .ref (md 5), .ref (md 6), .ref (md 7), .int (jI nd), .ref (md 9), .ref (md 10), .ref (md 11), .int (jI np), .ref (md 13), .ref (md 14), .ref (md 15), .ref (md 16), .ref (md 17), .ref (md 18), .ref (md 19), .ref (md 20), .int (jI nq), .ref (md 22), .ref (md 23), .ref (md 24), .ref (md 25), .ref (md 26), .int (jI tq), .ref (md 28), .ref (md 29), .ref (md 30)])), ((md 28), .inl (g.1, 25, .inl (aI tt)))] → va_S A s.heap H locs → lv_has ls 2 [(0, .ref hm), (1, .int (jI k9))] → W p l e (jR 2 80) s m args below meth c H locs 0 0 Q (F0 m 10 ls [.int (jI cv9), .ref hm]) := by
    intro cv9 hcv H locs ls hP hD hS hl
    refine va_put (D := D) (ci := 5) (v := .int (jI cv9)) (ty := .int) (C := RX5) (T := TX5) (N := 31) hx hb hts inX5 tyX5 tyX5_ok nmX5 hown hK hP hD hS 0 rfl rfl 0 (by decide) f84 (fun _ h9 => h9) rfl (by decide +kernel) rfl rfl (Nat.le_of_ble_eq_true rfl) dX5_told_10 (fun H locs hP hD hS => ?_)
    have hP : va_P D jcl [(hm, .inr (5, [.int (jI cv9), .int (jI ly), .int (jI nt), .ref (md 3), .int (jI ns), .ref (md 5), .ref (md 6), .ref (md 7), .int (jI nd), .ref (md 9), .ref (md 10), .ref (md 11), .int (jI np), .ref (md 13), .ref (md 14), .ref (md 15), .ref (md 16), .ref (md 17), .ref (md 18), .ref (md 19), .ref (md 20), .int (jI nq), .ref (md 22), .ref (md 23), .ref (md 24), .ref (md 25), .ref (md 26), .int (jI tq), .ref (md 28), .ref (md 29), .ref (md 30)])), ((md 28), .inl (g.1, 25, .inl (aI tt)))] H := hP
    have hD : va_D A [(hm, .inr (5, [.int (jI cv9), .int (jI ly), .int (jI nt), .ref (md 3), .int (jI ns), .ref (md 5), .ref (md 6), .ref (md 7), .int (jI nd), .ref (md 9), .ref (md 10), .ref (md 11), .int (jI np), .ref (md 13), .ref (md 14), .ref (md 15), .ref (md 16), .ref (md 17), .ref (md 18), .ref (md 19), .ref (md 20), .int (jI nq), .ref (md 22), .ref (md 23), .ref (md 24), .ref (md 25), .ref (md 26), .int (jI tq), .ref (md 28), .ref (md 29), .ref (md 30)])), ((md 28), .inl (g.1, 25, .inl (aI tt)))] := hD
    refine lv_aload_n hx hb dX5_told_13 rfl (lv_at hl 0 rfl) ?_
    refine va_get (D := D) (ci := 5) (v := .int (jI cv9)) (C := RX5) (T := TX5) (N := 31) hx hb hts inX5 hown hK hP 0 rfl rfl 0 (by decide) f84 (fun _ h9 => h9) rfl dX5_told_14 ?_
    refine jv_if_le (tgt := 24) hx hb ⟨by omega, by omega⟩ dX5_told_17 (by decide) (fun c17 => ?_) (fun c17 => ?_)
    · skip
      refine lv_iload_n hx hb dX5_told_24 rfl (lv_at hl 1 rfl) ?_
      refine lv_aload_n hx hb dX5_told_25 rfl (lv_at hl 0 rfl) ?_
      refine va_get (D := D) (ci := 5) (v := .int (jI tq)) (C := RX5) (T := TX5) (N := 31) hx hb hts inX5 hown hK hP 0 rfl rfl 27 (by decide) f213 (fun _ h9 => h9) rfl dX5_told_26 ?_
      refine jv_icmp_ge (tgt := 41) hx hb ⟨by omega, by omega⟩ ⟨by omega, by omega⟩ dX5_told_29 (by decide) (fun c29 => ?_) (fun c29 => ?_)
      · skip
        refine jv_iconst hx hb dX5_told_41 ?_
        exact hret (-1) cv9 _ _ _ _ (Or.inr ⟨by omega, by omega, by rw [if_neg (by omega)]⟩) (hP.sub [0, 1] rfl) (hD.sub [0, 1] (by decide) rfl) hS dX5_told_42
      · skip
        refine lv_aload_n hx hb dX5_told_32 rfl (lv_at hl 0 rfl) ?_
        refine va_get (D := D) (ci := 5) (v := .ref (md 28)) (C := RX5) (T := TX5) (N := 31) hx hb hts inX5 hown hK hP 0 rfl rfl 28 (by decide) f71 (fun _ h9 => h9) rfl dX5_told_33 ?_
        refine lv_iload_n hx hb dX5_told_36 rfl (lv_at hl 1 rfl) ?_
        refine jv_iald hx hb hK hP 1 0 rfl rfl (i := k9) ⟨by omega, by omega⟩ (Nat.le_of_ble_eq_true rfl) dX5_told_37 ?_
        refine lv_goto (tgt := 42) hx hb dX5_told_38 (by decide) ?_
        exact hret (tt k9) cv9 _ _ _ _ (Or.inr ⟨by omega, by omega, by rw [if_pos (by omega)]⟩) (hP.sub [0, 1] rfl) (hD.sub [0, 1] (by decide) rfl) hS dX5_told_42
    · skip
      refine jv_iconst hx hb dX5_told_20 ?_
      refine lv_goto (tgt := 42) hx hb dX5_told_21 (by decide) ?_
      exact hret 0 cv9 _ _ _ _ (Or.inl ⟨by omega, by omega⟩) (hP.sub [0, 1] rfl) (hD.sub [0, 1] (by decide) rfl) hS dX5_told_42
  refine lv_aload_n hx hb dX5_told_0 rfl (lv_at hl 0 rfl) ?_
  refine lv_iload_n hx hb dX5_told_1 rfl (lv_at hl 1 rfl) ?_
  refine jv_if_ge (tgt := 9) hx hb ⟨by omega, by omega⟩ dX5_told_2 (by decide) (fun c2 => ?_) (fun c2 => ?_)
  · skip
    refine jv_iconst hx hb dX5_told_9 ?_
    exact JC 0 (by omega) _ _ _ (hP.sub [0, 1] rfl) (hD.sub [0, 1] (by decide) rfl) hS (lv_sub hl [0, 1] rfl)
  · skip
    refine jv_iconst hx hb dX5_told_5 ?_
    refine lv_goto (tgt := 10) hx hb dX5_told_6 (by decide) ?_
    exact JC 1 (by omega) _ _ _ (hP.sub [0, 1] rfl) (hD.sub [0, 1] (by decide) rfl) hS (lv_sub hl [0, 1] rfl)

set_option maxHeartbeats 4000000 in
set_option maxRecDepth 100000 in
/-- count -/
theorem tX5_count (l : Launch) (D : va_G) (g : ClassId × ClassId × ClassId) (hm : Nat) (md : Nat → Nat) (co : Int) (ly : Int) (nt : Int) (ns : Int) (nd : Int) (np : Int) (nq : Int) (tq : Int) (wh : Int) (hri : rI wh) : jMi l D g yX5_count wsX5_count 2 80 [.ref hm, .int (jI wh)] [(hm, .inr (5, [.int (jI co), .int (jI ly), .int (jI nt), .ref (md 3), .int (jI ns), .ref (md 5), .ref (md 6), .ref (md 7), .int (jI nd), .ref (md 9), .ref (md 10), .ref (md 11), .int (jI np), .ref (md 13), .ref (md 14), .ref (md 15), .ref (md 16), .ref (md 17), .ref (md 18), .ref (md 19), .ref (md 20), .int (jI nq), .ref (md 22), .ref (md 23), .ref (md 24), .ref (md 25), .ref (md 26), .int (jI tq), .ref (md 28), .ref (md 29), .ref (md 30)]))] (S := Int) (fun z u => (u = 1 ∧ ¬ (0 ≤ wh ∧ wh < 5)) ∨ (u = 0 ∧ (0 ≤ wh ∧ wh < 5) ∧ z = (if wh = 0 then nt else if wh = 1 then ns else if wh = 2 then nd else if wh = 3 then np else nq))) (fun u => [(hm, .inr (5, [.int (jI u), .int (jI ly), .int (jI nt), .ref (md 3), .int (jI ns), .ref (md 5), .ref (md 6), .ref (md 7), .int (jI nd), .ref (md 9), .ref (md 10), .ref (md 11), .int (jI np), .ref (md 13), .ref (md 14), .ref (md 15), .ref (md 16), .ref (md 17), .ref (md 18), .ref (md 19), .ref (md 20), .int (jI nq), .ref (md 22), .ref (md 23), .ref (md 24), .ref (md 25), .ref (md 26), .int (jI tq), .ref (md 28), .ref (md 29), .ref (md 30)]))]) := by
  refine jMi_of (cc := cX5_count) (maxL := 2) (by decide) rfl (Nat.le_of_ble_eq_true rfl) ?_
  intro p e s m args below meth c Q A hx hb hml hts hown hK hA hret ls hl hP hD
  have hS : va_S A s.heap s.heap [] := va_S.rf
  have hown : s.vm.findClass RX5 = some m.cls := hown
  have f84 := hts (.fieldLink RX5 84 "AntennaFillModel" "code" "I") (by decide +kernel)
  have f87 := hts (.fieldLink RX5 87 "AntennaFillModel" "nets" "I") (by decide +kernel)
  have f102 := hts (.fieldLink RX5 102 "AntennaFillModel" "shapes" "I") (by decide +kernel)
  have f136 := hts (.fieldLink RX5 136 "AntennaFillModel" "diodes" "I") (by decide +kernel)
  have f139 := hts (.fieldLink RX5 139 "AntennaFillModel" "placed" "I") (by decide +kernel)
  have f165 := hts (.fieldLink RX5 165 "AntennaFillModel" "pieces" "I") (by decide +kernel)
  have inX5 : ∀ w ∈ wsX50, w ∈ wsX5_count := by decide +kernel
  have hl : lv_has ls 2 [(0, .ref hm), (1, .int (jI wh))] := hl
  have JC : ∀ (cv9 : Int), ((cv9 = 1 ∧ ¬ (0 ≤ wh ∧ wh < 5)) ∨ (cv9 = 0 ∧ (0 ≤ wh ∧ wh < 5))) → ∀ (H : Heap) (locs : List Loc) (ls : Array Slot), va_P D jcl [(hm, .inr (5, [.int (jI co), .int (jI ly), .int (jI nt), .ref (md 3), .int (jI ns), .ref (md 5), .ref (md 6), .ref (md 7), .int (jI nd), .ref (md 9), .ref (md 10), .ref (md 11), .int (jI np), .ref (md 13), .ref (md 14), .ref (md 15), .ref (md 16), .ref (md 17), .ref (md 18), .ref (md 19), .ref (md 20), .int (jI nq), .ref (md 22), .ref (md 23), .ref (md 24), .ref (md 25), .ref (md 26), .int (jI tq), .ref (md 28), .ref (md 29), .ref (md 30)]))] H → va_D A [(hm, .inr (5, [.int (jI co), .int (jI ly), .int (jI nt), .ref (md 3), .int (jI ns), .ref (md 5), .ref (md 6), .ref (md 7), .int (jI nd), .ref (md 9), .ref (md 10), .ref (md 11), .int (jI np), .ref (md 13), .ref (md 14), .ref (md 15), .ref (md 16), .ref (md 17), .ref (md 18), .ref (md 19), .ref (md 20), .int (jI nq), .ref (md 22), .ref (md 23), .ref (md 24), .ref (md 25), .ref (md 26), .int (jI tq), .ref (md 28), .ref (md 29), .ref (md 30)]))] → va_S A s.heap H locs → lv_has ls 2 [(0, .ref hm), (1, .int (jI wh))] → W p l e (jR 2 80) s m args below meth c H locs 0 0 Q (F0 m 15 ls [.int (jI cv9), .ref hm]) := by
    intro cv9 hcv H locs ls hP hD hS hl
    refine va_put (D := D) (ci := 5) (v := .int (jI cv9)) (ty := .int) (C := RX5) (T := TX5) (N := 31) hx hb hts inX5 tyX5 tyX5_ok nmX5 hown hK hP hD hS 0 rfl rfl 0 (by decide) f84 (fun _ h9 => h9) rfl (by decide +kernel) rfl rfl (Nat.le_of_ble_eq_true rfl) dX5_count_15 (fun H locs hP hD hS => ?_)
    have hP : va_P D jcl [(hm, .inr (5, [.int (jI cv9), .int (jI ly), .int (jI nt), .ref (md 3), .int (jI ns), .ref (md 5), .ref (md 6), .ref (md 7), .int (jI nd), .ref (md 9), .ref (md 10), .ref (md 11), .int (jI np), .ref (md 13), .ref (md 14), .ref (md 15), .ref (md 16), .ref (md 17), .ref (md 18), .ref (md 19), .ref (md 20), .int (jI nq), .ref (md 22), .ref (md 23), .ref (md 24), .ref (md 25), .ref (md 26), .int (jI tq), .ref (md 28), .ref (md 29), .ref (md 30)]))] H := hP
    have hD : va_D A [(hm, .inr (5, [.int (jI cv9), .int (jI ly), .int (jI nt), .ref (md 3), .int (jI ns), .ref (md 5), .ref (md 6), .ref (md 7), .int (jI nd), .ref (md 9), .ref (md 10), .ref (md 11), .int (jI np), .ref (md 13), .ref (md 14), .ref (md 15), .ref (md 16), .ref (md 17), .ref (md 18), .ref (md 19), .ref (md 20), .int (jI nq), .ref (md 22), .ref (md 23), .ref (md 24), .ref (md 25), .ref (md 26), .int (jI tq), .ref (md 28), .ref (md 29), .ref (md 30)]))] := hD
    refine lv_aload_n hx hb dX5_count_18 rfl (lv_at hl 0 rfl) ?_
    refine va_get (D := D) (ci := 5) (v := .int (jI cv9)) (C := RX5) (T := TX5) (N := 31) hx hb hts inX5 hown hK hP 0 rfl rfl 0 (by decide) f84 (fun _ h9 => h9) rfl dX5_count_19 ?_
    refine jv_if_le (tgt := 29) hx hb ⟨by omega, by omega⟩ dX5_count_22 (by decide) (fun c22 => ?_) (fun c22 => ?_)
    · skip
      refine lv_iload_n hx hb dX5_count_29 rfl (lv_at hl 1 rfl) ?_
      refine jv_if_ne (tgt := 40) hx hb ⟨by omega, by omega⟩ dX5_count_30 (by decide) (fun c30 => ?_) (fun c30 => ?_)
      · skip
        refine lv_iload_n hx hb dX5_count_40 rfl (lv_at hl 1 rfl) ?_
        refine jv_iconst hx hb dX5_count_41 ?_
        refine jv_icmp_ne (tgt := 52) hx hb ⟨by omega, by omega⟩ ⟨by decide, by decide⟩ dX5_count_42 (by decide) (fun c42 => ?_) (fun c42 => ?_)
        · skip
          refine lv_iload_n hx hb dX5_count_52 rfl (lv_at hl 1 rfl) ?_
          refine jv_iconst hx hb dX5_count_53 ?_
          refine jv_icmp_ne (tgt := 64) hx hb ⟨by omega, by omega⟩ ⟨by decide, by decide⟩ dX5_count_54 (by decide) (fun c54 => ?_) (fun c54 => ?_)
          · skip
            refine lv_iload_n hx hb dX5_count_64 rfl (lv_at hl 1 rfl) ?_
            refine jv_iconst hx hb dX5_count_65 ?_
            refine jv_icmp_ne (tgt := 76) hx hb ⟨by omega, by omega⟩ ⟨by decide, by decide⟩ dX5_count_66 (by decide) (fun c66 => ?_) (fun c66 => ?_)
            · skip
              refine lv_aload_n hx hb dX5_count_76 rfl (lv_at hl 0 rfl) ?_
              refine va_get (D := D) (ci := 5) (v := .int (jI nq)) (C := RX5) (T := TX5) (N := 31) hx hb hts inX5 hown hK hP 0 rfl rfl 21 (by decide) f165 (fun _ h9 => h9) rfl dX5_count_77 ?_
              exact hret nq cv9 _ _ _ _ (Or.inr ⟨by omega, by omega, by
                first
                | rw [if_pos c30]
                | rw [if_neg c30, if_pos c42]
                | rw [if_neg c30, if_neg c42, if_pos c54]
                | rw [if_neg c30, if_neg c42, if_neg c54, if_pos c66]
                | rw [if_neg c30, if_neg c42, if_neg c54, if_neg c66]⟩) (hP.sub [0] rfl) (hD.sub [0] (by decide) rfl) hS dX5_count_80
            · skip
              refine lv_aload_n hx hb dX5_count_69 rfl (lv_at hl 0 rfl) ?_
              refine va_get (D := D) (ci := 5) (v := .int (jI np)) (C := RX5) (T := TX5) (N := 31) hx hb hts inX5 hown hK hP 0 rfl rfl 12 (by decide) f139 (fun _ h9 => h9) rfl dX5_count_70 ?_
              refine lv_goto (tgt := 80) hx hb dX5_count_73 (by decide) ?_
              exact hret np cv9 _ _ _ _ (Or.inr ⟨by omega, by omega, by
                first
                | rw [if_pos c30]
                | rw [if_neg c30, if_pos c42]
                | rw [if_neg c30, if_neg c42, if_pos c54]
                | rw [if_neg c30, if_neg c42, if_neg c54, if_pos c66]
                | rw [if_neg c30, if_neg c42, if_neg c54, if_neg c66]⟩) (hP.sub [0] rfl) (hD.sub [0] (by decide) rfl) hS dX5_count_80
          · skip
            refine lv_aload_n hx hb dX5_count_57 rfl (lv_at hl 0 rfl) ?_
            refine va_get (D := D) (ci := 5) (v := .int (jI nd)) (C := RX5) (T := TX5) (N := 31) hx hb hts inX5 hown hK hP 0 rfl rfl 8 (by decide) f136 (fun _ h9 => h9) rfl dX5_count_58 ?_
            refine lv_goto (tgt := 80) hx hb dX5_count_61 (by decide) ?_
            exact hret nd cv9 _ _ _ _ (Or.inr ⟨by omega, by omega, by
              first
              | rw [if_pos c30]
              | rw [if_neg c30, if_pos c42]
              | rw [if_neg c30, if_neg c42, if_pos c54]
              | rw [if_neg c30, if_neg c42, if_neg c54, if_pos c66]
              | rw [if_neg c30, if_neg c42, if_neg c54, if_neg c66]⟩) (hP.sub [0] rfl) (hD.sub [0] (by decide) rfl) hS dX5_count_80
        · skip
          refine lv_aload_n hx hb dX5_count_45 rfl (lv_at hl 0 rfl) ?_
          refine va_get (D := D) (ci := 5) (v := .int (jI ns)) (C := RX5) (T := TX5) (N := 31) hx hb hts inX5 hown hK hP 0 rfl rfl 4 (by decide) f102 (fun _ h9 => h9) rfl dX5_count_46 ?_
          refine lv_goto (tgt := 80) hx hb dX5_count_49 (by decide) ?_
          exact hret ns cv9 _ _ _ _ (Or.inr ⟨by omega, by omega, by
            first
            | rw [if_pos c30]
            | rw [if_neg c30, if_pos c42]
            | rw [if_neg c30, if_neg c42, if_pos c54]
            | rw [if_neg c30, if_neg c42, if_neg c54, if_pos c66]
            | rw [if_neg c30, if_neg c42, if_neg c54, if_neg c66]⟩) (hP.sub [0] rfl) (hD.sub [0] (by decide) rfl) hS dX5_count_80
      · skip
        refine lv_aload_n hx hb dX5_count_33 rfl (lv_at hl 0 rfl) ?_
        refine va_get (D := D) (ci := 5) (v := .int (jI nt)) (C := RX5) (T := TX5) (N := 31) hx hb hts inX5 hown hK hP 0 rfl rfl 2 (by decide) f87 (fun _ h9 => h9) rfl dX5_count_34 ?_
        refine lv_goto (tgt := 80) hx hb dX5_count_37 (by decide) ?_
        exact hret nt cv9 _ _ _ _ (Or.inr ⟨by omega, by omega, by
          first
          | rw [if_pos c30]
          | rw [if_neg c30, if_pos c42]
          | rw [if_neg c30, if_neg c42, if_pos c54]
          | rw [if_neg c30, if_neg c42, if_neg c54, if_pos c66]
          | rw [if_neg c30, if_neg c42, if_neg c54, if_neg c66]⟩) (hP.sub [0] rfl) (hD.sub [0] (by decide) rfl) hS dX5_count_80
    · skip
      refine jv_iconst hx hb dX5_count_25 ?_
      refine lv_goto (tgt := 80) hx hb dX5_count_26 (by decide) ?_
      exact hret 0 cv9 _ _ _ _ (Or.inl ⟨by omega, by omega⟩) (hP.sub [0] rfl) (hD.sub [0] (by decide) rfl) hS dX5_count_80
  refine lv_aload_n hx hb dX5_count_0 rfl (lv_at hl 0 rfl) ?_
  refine lv_iload_n hx hb dX5_count_1 rfl (lv_at hl 1 rfl) ?_
  refine jv_if_lt (tgt := 10) hx hb ⟨by omega, by omega⟩ dX5_count_2 (by decide) (fun c2 => ?_) (fun c2 => ?_)
  · skip
    refine jv_iconst hx hb dX5_count_10 ?_
    refine lv_goto (tgt := 15) hx hb dX5_count_11 (by decide) ?_
    exact JC 1 (by omega) _ _ _ (hP.sub [0] rfl) (hD.sub [0] (by decide) rfl) hS (lv_sub hl [0, 1] rfl)
  · skip
    refine lv_iload_n hx hb dX5_count_5 rfl (lv_at hl 1 rfl) ?_
    refine jv_iconst hx hb dX5_count_6 ?_
    refine jv_icmp_le (tgt := 14) hx hb ⟨by omega, by omega⟩ ⟨by decide, by decide⟩ dX5_count_7 (by decide) (fun c7 => ?_) (fun c7 => ?_)
    · skip
      refine jv_iconst hx hb dX5_count_14 ?_
      exact JC 0 (by omega) _ _ _ (hP.sub [0] rfl) (hD.sub [0] (by decide) rfl) hS (lv_sub hl [0, 1] rfl)
    · skip
      refine jv_iconst hx hb dX5_count_10 ?_
      refine lv_goto (tgt := 15) hx hb dX5_count_11 (by decide) ?_
      exact JC 1 (by omega) _ _ _ (hP.sub [0] rfl) (hD.sub [0] (by decide) rfl) hS (lv_sub hl [0, 1] rfl)

set_option maxHeartbeats 4000000 in
set_option maxRecDepth 100000 in
/-- repaired -/
theorem tX5_repaired (l : Launch) (D : va_G) (g : ClassId × ClassId × ClassId) (hm : Nat) (md : Nat → Nat) (co : Int) (ly : Int) (nt : Int) (ns : Int) (nd : Int) (np : Int) (nq : Int) (tq : Int) (qn : Int → Int) (qs : Int → Int) (qx : Int → Int) (qy : Int → Int) (DD : List jD) (k9 : Int) (wh : Int) (hmd : mdI qn qs qx qy np DD) (hnp : np ≤ 60) (hri : rI k9 ∧ rI wh) : jMi l D g yX5_repaired wsX5_repaired 2 80 [.ref hm, .int (jI k9), .int (jI wh)] [(hm, .inr (5, [.int (jI co), .int (jI ly), .int (jI nt), .ref (md 3), .int (jI ns), .ref (md 5), .ref (md 6), .ref (md 7), .int (jI nd), .ref (md 9), .ref (md 10), .ref (md 11), .int (jI np), .ref (md 13), .ref (md 14), .ref (md 15), .ref (md 16), .ref (md 17), .ref (md 18), .ref (md 19), .ref (md 20), .int (jI nq), .ref (md 22), .ref (md 23), .ref (md 24), .ref (md 25), .ref (md 26), .int (jI tq), .ref (md 28), .ref (md 29), .ref (md 30)])), ((md 13), .inl (g.1, 60, .inl (aI qn))), ((md 14), .inl (g.1, 60, .inl (aI qs))), ((md 15), .inl (g.1, 60, .inl (aI qx))), ((md 16), .inl (g.1, 60, .inl (aI qy)))] (S := Int) (fun z u => (u = 1 ∧ ¬ (0 ≤ k9 ∧ k9 < np ∧ 0 ≤ wh ∧ wh < 4)) ∨ (u = 0 ∧ (0 ≤ k9 ∧ k9 < np ∧ 0 ≤ wh ∧ wh < 4) ∧ z = (if wh = 0 then qn k9 else if wh = 1 then qs k9 else if wh = 2 then qx k9 else qy k9))) (fun u => [(hm, .inr (5, [.int (jI u), .int (jI ly), .int (jI nt), .ref (md 3), .int (jI ns), .ref (md 5), .ref (md 6), .ref (md 7), .int (jI nd), .ref (md 9), .ref (md 10), .ref (md 11), .int (jI np), .ref (md 13), .ref (md 14), .ref (md 15), .ref (md 16), .ref (md 17), .ref (md 18), .ref (md 19), .ref (md 20), .int (jI nq), .ref (md 22), .ref (md 23), .ref (md 24), .ref (md 25), .ref (md 26), .int (jI tq), .ref (md 28), .ref (md 29), .ref (md 30)])), ((md 13), .inl (g.1, 60, .inl (aI qn))), ((md 14), .inl (g.1, 60, .inl (aI qs))), ((md 15), .inl (g.1, 60, .inl (aI qx))), ((md 16), .inl (g.1, 60, .inl (aI qy)))]) := by
  refine jMi_of (cc := cX5_repaired) (maxL := 3) (by decide) rfl (Nat.le_of_ble_eq_true rfl) ?_
  intro p e s m args below meth c Q A hx hb hml hts hown hK hA hret ls hl hP hD
  have hS : va_S A s.heap s.heap [] := va_S.rf
  have hown : s.vm.findClass RX5 = some m.cls := hown
  have f32 := hts (.fieldLink RX5 32 "AntennaFillModel" "placedNet" "[I") (by decide +kernel)
  have f35 := hts (.fieldLink RX5 35 "AntennaFillModel" "placedLayer" "[I") (by decide +kernel)
  have f38 := hts (.fieldLink RX5 38 "AntennaFillModel" "placedX" "[I") (by decide +kernel)
  have f41 := hts (.fieldLink RX5 41 "AntennaFillModel" "placedY" "[I") (by decide +kernel)
  have f84 := hts (.fieldLink RX5 84 "AntennaFillModel" "code" "I") (by decide +kernel)
  have f139 := hts (.fieldLink RX5 139 "AntennaFillModel" "placed" "I") (by decide +kernel)
  have inX5 : ∀ w ∈ wsX50, w ∈ wsX5_repaired := by decide +kernel
  have hl : lv_has ls 3 [(0, .ref hm), (1, .int (jI k9)), (2, .int (jI wh))] := hl
  have hlen2 := hmd.1
  have JC : ∀ (cv9 : Int), ((cv9 = 1 ∧ ¬ (0 ≤ k9 ∧ k9 < np ∧ 0 ≤ wh ∧ wh < 4)) ∨ (cv9 = 0 ∧ (0 ≤ k9 ∧ k9 < np ∧ 0 ≤ wh ∧ wh < 4))) → ∀ (H : Heap) (locs : List Loc) (ls : Array Slot), va_P D jcl [(hm, .inr (5, [.int (jI co), .int (jI ly), .int (jI nt), .ref (md 3), .int (jI ns), .ref (md 5), .ref (md 6), .ref (md 7), .int (jI nd), .ref (md 9), .ref (md 10), .ref (md 11), .int (jI np), .ref (md 13), .ref (md 14), .ref (md 15), .ref (md 16), .ref (md 17), .ref (md 18), .ref (md 19), .ref (md 20), .int (jI nq), .ref (md 22), .ref (md 23), .ref (md 24), .ref (md 25), .ref (md 26), .int (jI tq), .ref (md 28), .ref (md 29), .ref (md 30)])), ((md 13), .inl (g.1, 60, .inl (aI qn))), ((md 14), .inl (g.1, 60, .inl (aI qs))), ((md 15), .inl (g.1, 60, .inl (aI qx))), ((md 16), .inl (g.1, 60, .inl (aI qy)))] H → va_D A [(hm, .inr (5, [.int (jI co), .int (jI ly), .int (jI nt), .ref (md 3), .int (jI ns), .ref (md 5), .ref (md 6), .ref (md 7), .int (jI nd), .ref (md 9), .ref (md 10), .ref (md 11), .int (jI np), .ref (md 13), .ref (md 14), .ref (md 15), .ref (md 16), .ref (md 17), .ref (md 18), .ref (md 19), .ref (md 20), .int (jI nq), .ref (md 22), .ref (md 23), .ref (md 24), .ref (md 25), .ref (md 26), .int (jI tq), .ref (md 28), .ref (md 29), .ref (md 30)])), ((md 13), .inl (g.1, 60, .inl (aI qn))), ((md 14), .inl (g.1, 60, .inl (aI qs))), ((md 15), .inl (g.1, 60, .inl (aI qx))), ((md 16), .inl (g.1, 60, .inl (aI qy)))] → va_S A s.heap H locs → lv_has ls 3 [(0, .ref hm), (1, .int (jI k9)), (2, .int (jI wh))] → W p l e (jR 2 80) s m args below meth c H locs 0 0 Q (F0 m 27 ls [.int (jI cv9), .ref hm]) := by
    intro cv9 hcv H locs ls hP hD hS hl
    refine va_put (D := D) (ci := 5) (v := .int (jI cv9)) (ty := .int) (C := RX5) (T := TX5) (N := 31) hx hb hts inX5 tyX5 tyX5_ok nmX5 hown hK hP hD hS 0 rfl rfl 0 (by decide) f84 (fun _ h9 => h9) rfl (by decide +kernel) rfl rfl (Nat.le_of_ble_eq_true rfl) dX5_repaired_27 (fun H locs hP hD hS => ?_)
    have hP : va_P D jcl [(hm, .inr (5, [.int (jI cv9), .int (jI ly), .int (jI nt), .ref (md 3), .int (jI ns), .ref (md 5), .ref (md 6), .ref (md 7), .int (jI nd), .ref (md 9), .ref (md 10), .ref (md 11), .int (jI np), .ref (md 13), .ref (md 14), .ref (md 15), .ref (md 16), .ref (md 17), .ref (md 18), .ref (md 19), .ref (md 20), .int (jI nq), .ref (md 22), .ref (md 23), .ref (md 24), .ref (md 25), .ref (md 26), .int (jI tq), .ref (md 28), .ref (md 29), .ref (md 30)])), ((md 13), .inl (g.1, 60, .inl (aI qn))), ((md 14), .inl (g.1, 60, .inl (aI qs))), ((md 15), .inl (g.1, 60, .inl (aI qx))), ((md 16), .inl (g.1, 60, .inl (aI qy)))] H := hP
    have hD : va_D A [(hm, .inr (5, [.int (jI cv9), .int (jI ly), .int (jI nt), .ref (md 3), .int (jI ns), .ref (md 5), .ref (md 6), .ref (md 7), .int (jI nd), .ref (md 9), .ref (md 10), .ref (md 11), .int (jI np), .ref (md 13), .ref (md 14), .ref (md 15), .ref (md 16), .ref (md 17), .ref (md 18), .ref (md 19), .ref (md 20), .int (jI nq), .ref (md 22), .ref (md 23), .ref (md 24), .ref (md 25), .ref (md 26), .int (jI tq), .ref (md 28), .ref (md 29), .ref (md 30)])), ((md 13), .inl (g.1, 60, .inl (aI qn))), ((md 14), .inl (g.1, 60, .inl (aI qs))), ((md 15), .inl (g.1, 60, .inl (aI qx))), ((md 16), .inl (g.1, 60, .inl (aI qy)))] := hD
    refine lv_aload_n hx hb dX5_repaired_30 rfl (lv_at hl 0 rfl) ?_
    refine va_get (D := D) (ci := 5) (v := .int (jI cv9)) (C := RX5) (T := TX5) (N := 31) hx hb hts inX5 hown hK hP 0 rfl rfl 0 (by decide) f84 (fun _ h9 => h9) rfl dX5_repaired_31 ?_
    refine jv_if_le (tgt := 41) hx hb ⟨by omega, by omega⟩ dX5_repaired_34 (by decide) (fun c34 => ?_) (fun c34 => ?_)
    · skip
      refine lv_iload_n hx hb dX5_repaired_41 rfl (lv_at hl 2 rfl) ?_
      refine jv_if_ne (tgt := 54) hx hb ⟨by omega, by omega⟩ dX5_repaired_42 (by decide) (fun c42 => ?_) (fun c42 => ?_)
      · skip
        refine lv_iload_n hx hb dX5_repaired_54 rfl (lv_at hl 2 rfl) ?_
        refine jv_iconst hx hb dX5_repaired_55 ?_
        refine jv_icmp_ne (tgt := 68) hx hb ⟨by omega, by omega⟩ ⟨by decide, by decide⟩ dX5_repaired_56 (by decide) (fun c56 => ?_) (fun c56 => ?_)
        · skip
          refine lv_iload_n hx hb dX5_repaired_68 rfl (lv_at hl 2 rfl) ?_
          refine jv_iconst hx hb dX5_repaired_69 ?_
          refine jv_icmp_ne (tgt := 82) hx hb ⟨by omega, by omega⟩ ⟨by decide, by decide⟩ dX5_repaired_70 (by decide) (fun c70 => ?_) (fun c70 => ?_)
          · skip
            refine lv_aload_n hx hb dX5_repaired_82 rfl (lv_at hl 0 rfl) ?_
            refine va_get (D := D) (ci := 5) (v := .ref (md 16)) (C := RX5) (T := TX5) (N := 31) hx hb hts inX5 hown hK hP 0 rfl rfl 16 (by decide) f41 (fun _ h9 => h9) rfl dX5_repaired_83 ?_
            refine lv_iload_n hx hb dX5_repaired_86 rfl (lv_at hl 1 rfl) ?_
            refine jv_iald hx hb hK hP 4 0 rfl rfl (i := k9) ⟨by omega, by omega⟩ (Nat.le_of_ble_eq_true rfl) dX5_repaired_87 ?_
            exact hret (qy k9) cv9 _ _ _ _ (Or.inr ⟨by omega, by omega, by
              first
              | rw [if_pos c42]
              | rw [if_neg c42, if_pos c56]
              | rw [if_neg c42, if_neg c56, if_pos c70]
              | rw [if_neg c42, if_neg c56, if_neg c70]⟩) (hP.sub [0, 1, 2, 3, 4] rfl) (hD.sub [0, 1, 2, 3, 4] (by decide) rfl) hS dX5_repaired_88
          · skip
            refine lv_aload_n hx hb dX5_repaired_73 rfl (lv_at hl 0 rfl) ?_
            refine va_get (D := D) (ci := 5) (v := .ref (md 15)) (C := RX5) (T := TX5) (N := 31) hx hb hts inX5 hown hK hP 0 rfl rfl 15 (by decide) f38 (fun _ h9 => h9) rfl dX5_repaired_74 ?_
            refine lv_iload_n hx hb dX5_repaired_77 rfl (lv_at hl 1 rfl) ?_
            refine jv_iald hx hb hK hP 3 0 rfl rfl (i := k9) ⟨by omega, by omega⟩ (Nat.le_of_ble_eq_true rfl) dX5_repaired_78 ?_
            refine lv_goto (tgt := 88) hx hb dX5_repaired_79 (by decide) ?_
            exact hret (qx k9) cv9 _ _ _ _ (Or.inr ⟨by omega, by omega, by
              first
              | rw [if_pos c42]
              | rw [if_neg c42, if_pos c56]
              | rw [if_neg c42, if_neg c56, if_pos c70]
              | rw [if_neg c42, if_neg c56, if_neg c70]⟩) (hP.sub [0, 1, 2, 3, 4] rfl) (hD.sub [0, 1, 2, 3, 4] (by decide) rfl) hS dX5_repaired_88
        · skip
          refine lv_aload_n hx hb dX5_repaired_59 rfl (lv_at hl 0 rfl) ?_
          refine va_get (D := D) (ci := 5) (v := .ref (md 14)) (C := RX5) (T := TX5) (N := 31) hx hb hts inX5 hown hK hP 0 rfl rfl 14 (by decide) f35 (fun _ h9 => h9) rfl dX5_repaired_60 ?_
          refine lv_iload_n hx hb dX5_repaired_63 rfl (lv_at hl 1 rfl) ?_
          refine jv_iald hx hb hK hP 2 0 rfl rfl (i := k9) ⟨by omega, by omega⟩ (Nat.le_of_ble_eq_true rfl) dX5_repaired_64 ?_
          refine lv_goto (tgt := 88) hx hb dX5_repaired_65 (by decide) ?_
          exact hret (qs k9) cv9 _ _ _ _ (Or.inr ⟨by omega, by omega, by
            first
            | rw [if_pos c42]
            | rw [if_neg c42, if_pos c56]
            | rw [if_neg c42, if_neg c56, if_pos c70]
            | rw [if_neg c42, if_neg c56, if_neg c70]⟩) (hP.sub [0, 1, 2, 3, 4] rfl) (hD.sub [0, 1, 2, 3, 4] (by decide) rfl) hS dX5_repaired_88
      · skip
        refine lv_aload_n hx hb dX5_repaired_45 rfl (lv_at hl 0 rfl) ?_
        refine va_get (D := D) (ci := 5) (v := .ref (md 13)) (C := RX5) (T := TX5) (N := 31) hx hb hts inX5 hown hK hP 0 rfl rfl 13 (by decide) f32 (fun _ h9 => h9) rfl dX5_repaired_46 ?_
        refine lv_iload_n hx hb dX5_repaired_49 rfl (lv_at hl 1 rfl) ?_
        refine jv_iald hx hb hK hP 1 0 rfl rfl (i := k9) ⟨by omega, by omega⟩ (Nat.le_of_ble_eq_true rfl) dX5_repaired_50 ?_
        refine lv_goto (tgt := 88) hx hb dX5_repaired_51 (by decide) ?_
        exact hret (qn k9) cv9 _ _ _ _ (Or.inr ⟨by omega, by omega, by
          first
          | rw [if_pos c42]
          | rw [if_neg c42, if_pos c56]
          | rw [if_neg c42, if_neg c56, if_pos c70]
          | rw [if_neg c42, if_neg c56, if_neg c70]⟩) (hP.sub [0, 1, 2, 3, 4] rfl) (hD.sub [0, 1, 2, 3, 4] (by decide) rfl) hS dX5_repaired_88
    · skip
      refine jv_iconst hx hb dX5_repaired_37 ?_
      refine lv_goto (tgt := 88) hx hb dX5_repaired_38 (by decide) ?_
      exact hret 0 cv9 _ _ _ _ (Or.inl ⟨by omega, by omega⟩) (hP.sub [0, 1, 2, 3, 4] rfl) (hD.sub [0, 1, 2, 3, 4] (by decide) rfl) hS dX5_repaired_88
  refine lv_aload_n hx hb dX5_repaired_0 rfl (lv_at hl 0 rfl) ?_
  refine lv_iload_n hx hb dX5_repaired_1 rfl (lv_at hl 1 rfl) ?_
  refine jv_if_lt (tgt := 22) hx hb ⟨by omega, by omega⟩ dX5_repaired_2 (by decide) (fun c2 => ?_) (fun c2 => ?_)
  · skip
    refine jv_iconst hx hb dX5_repaired_22 ?_
    refine lv_goto (tgt := 27) hx hb dX5_repaired_23 (by decide) ?_
    exact JC 1 (by omega) _ _ _ (hP.sub [0, 1, 2, 3, 4] rfl) (hD.sub [0, 1, 2, 3, 4] (by decide) rfl) hS (lv_sub hl [0, 1, 2] rfl)
  · skip
    refine lv_iload_n hx hb dX5_repaired_5 rfl (lv_at hl 1 rfl) ?_
    refine lv_aload_n hx hb dX5_repaired_6 rfl (lv_at hl 0 rfl) ?_
    refine va_get (D := D) (ci := 5) (v := .int (jI np)) (C := RX5) (T := TX5) (N := 31) hx hb hts inX5 hown hK hP 0 rfl rfl 12 (by decide) f139 (fun _ h9 => h9) rfl dX5_repaired_7 ?_
    refine jv_icmp_ge (tgt := 22) hx hb ⟨by omega, by omega⟩ ⟨by omega, by omega⟩ dX5_repaired_10 (by decide) (fun c10 => ?_) (fun c10 => ?_)
    · skip
      refine jv_iconst hx hb dX5_repaired_22 ?_
      refine lv_goto (tgt := 27) hx hb dX5_repaired_23 (by decide) ?_
      exact JC 1 (by omega) _ _ _ (hP.sub [0, 1, 2, 3, 4] rfl) (hD.sub [0, 1, 2, 3, 4] (by decide) rfl) hS (lv_sub hl [0, 1, 2] rfl)
    · skip
      refine lv_iload_n hx hb dX5_repaired_13 rfl (lv_at hl 2 rfl) ?_
      refine jv_if_lt (tgt := 22) hx hb ⟨by omega, by omega⟩ dX5_repaired_14 (by decide) (fun c14 => ?_) (fun c14 => ?_)
      · skip
        refine jv_iconst hx hb dX5_repaired_22 ?_
        refine lv_goto (tgt := 27) hx hb dX5_repaired_23 (by decide) ?_
        exact JC 1 (by omega) _ _ _ (hP.sub [0, 1, 2, 3, 4] rfl) (hD.sub [0, 1, 2, 3, 4] (by decide) rfl) hS (lv_sub hl [0, 1, 2] rfl)
      · skip
        refine lv_iload_n hx hb dX5_repaired_17 rfl (lv_at hl 2 rfl) ?_
        refine jv_iconst hx hb dX5_repaired_18 ?_
        refine jv_icmp_le (tgt := 26) hx hb ⟨by omega, by omega⟩ ⟨by decide, by decide⟩ dX5_repaired_19 (by decide) (fun c19 => ?_) (fun c19 => ?_)
        · skip
          refine jv_iconst hx hb dX5_repaired_26 ?_
          exact JC 0 (by omega) _ _ _ (hP.sub [0, 1, 2, 3, 4] rfl) (hD.sub [0, 1, 2, 3, 4] (by decide) rfl) hS (lv_sub hl [0, 1, 2] rfl)
        · skip
          refine jv_iconst hx hb dX5_repaired_22 ?_
          refine lv_goto (tgt := 27) hx hb dX5_repaired_23 (by decide) ?_
          exact JC 1 (by omega) _ _ _ (hP.sub [0, 1, 2, 3, 4] rfl) (hD.sub [0, 1, 2, 3, 4] (by decide) rfl) hS (lv_sub hl [0, 1, 2] rfl)
