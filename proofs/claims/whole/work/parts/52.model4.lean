set_option maxHeartbeats 4000000 in
set_option maxRecDepth 100000 in
/-- antenna -/
theorem tX5_antenna (l : Launch) (D : va_G) (g : ClassId × ClassId × ClassId) (hm : Nat) (md : Nat → Nat) (co : Int) (ly : Int) (nt : Int) (ns : Int) (nd : Int) (np : Int) (nq : Int) (tq : Int) (sn : Int → Int) (sl : Int → Int) (bo : Int → Int) (L : List jQ) (mf : Int → Int64) (net : Int) (layer : Int) (hms : msI sn sl bo ns L) (hns : ns ≤ 200) (hnet : 0 ≤ net ∧ net < 40) (hlay : 0 ≤ layer ∧ layer < 64) : jMl l D g yX5_antenna wsX5_antenna 4 160 [.ref hm, .int (jI net), .int (jI layer)] [(hm, .inr (5, [.int (jI co), .int (jI ly), .int (jI nt), .ref (md 3), .int (jI ns), .ref (md 5), .ref (md 6), .ref (md 7), .int (jI nd), .ref (md 9), .ref (md 10), .ref (md 11), .int (jI np), .ref (md 13), .ref (md 14), .ref (md 15), .ref (md 16), .ref (md 17), .ref (md 18), .ref (md 19), .ref (md 20), .int (jI nq), .ref (md 22), .ref (md 23), .ref (md 24), .ref (md 25), .ref (md 26), .int (jI tq), .ref (md 28), .ref (md 29), .ref (md 30)])), ((md 5), .inl (g.1, 200, .inl (aI sn))), ((md 6), .inl (g.1, 200, .inl (aI sl))), ((md 7), .inl (g.1, 800, .inl (aI bo))), ((md 29), .inl (g.2.1, 16000, .inr (.inl (aW mf))))] (S := (Int → Int64)) (fun z _ => z = jL (anT L net layer)) (fun u => [(hm, .inr (5, [.int (jI co), .int (jI ly), .int (jI nt), .ref (md 3), .int (jI ns), .ref (md 5), .ref (md 6), .ref (md 7), .int (jI nd), .ref (md 9), .ref (md 10), .ref (md 11), .int (jI np), .ref (md 13), .ref (md 14), .ref (md 15), .ref (md 16), .ref (md 17), .ref (md 18), .ref (md 19), .ref (md 20), .int (jI nq), .ref (md 22), .ref (md 23), .ref (md 24), .ref (md 25), .ref (md 26), .int (jI tq), .ref (md 28), .ref (md 29), .ref (md 30)])), ((md 5), .inl (g.1, 200, .inl (aI sn))), ((md 6), .inl (g.1, 200, .inl (aI sl))), ((md 7), .inl (g.1, 800, .inl (aI bo))), ((md 29), .inl (g.2.1, 16000, .inr (.inl (aW u))))]) := by
  refine jMl_of (cc := cX5_antenna) (maxL := 6) (by decide) rfl (Nat.le_of_ble_eq_true rfl) ?_
  intro p e s m args below meth c Q A hx hb hml hts hown hK hA hret ls hl hP hD
  have hS : va_S A s.heap s.heap [] := va_S.rf
  have hown : s.vm.findClass RX5 = some m.cls := hown
  have hl : lv_has ls 6 [(0, .ref hm), (1, .int (jI net)), (2, .int (jI layer))] := hl
  have L5 : ∀ (fuel : Nat) (i : Int) (acc : Int) (mf' : Int → Int64), (0 ≤ i ∧ i ≤ layer + 1) → (acc = sm (fun l9 => ar L net l9) 0 i) → (layer + 2 - i < (fuel : Int)) → ∀ (H : Heap) (locs : List Loc) (ls : Array Slot), va_P D jcl [(hm, .inr (5, [.int (jI co), .int (jI ly), .int (jI nt), .ref (md 3), .int (jI ns), .ref (md 5), .ref (md 6), .ref (md 7), .int (jI nd), .ref (md 9), .ref (md 10), .ref (md 11), .int (jI np), .ref (md 13), .ref (md 14), .ref (md 15), .ref (md 16), .ref (md 17), .ref (md 18), .ref (md 19), .ref (md 20), .int (jI nq), .ref (md 22), .ref (md 23), .ref (md 24), .ref (md 25), .ref (md 26), .int (jI tq), .ref (md 28), .ref (md 29), .ref (md 30)])), ((md 5), .inl (g.1, 200, .inl (aI sn))), ((md 6), .inl (g.1, 200, .inl (aI sl))), ((md 7), .inl (g.1, 800, .inl (aI bo))), ((md 29), .inl (g.2.1, 16000, .inr (.inl (aW mf'))))] H → va_D A [(hm, .inr (5, [.int (jI co), .int (jI ly), .int (jI nt), .ref (md 3), .int (jI ns), .ref (md 5), .ref (md 6), .ref (md 7), .int (jI nd), .ref (md 9), .ref (md 10), .ref (md 11), .int (jI np), .ref (md 13), .ref (md 14), .ref (md 15), .ref (md 16), .ref (md 17), .ref (md 18), .ref (md 19), .ref (md 20), .int (jI nq), .ref (md 22), .ref (md 23), .ref (md 24), .ref (md 25), .ref (md 26), .int (jI tq), .ref (md 28), .ref (md 29), .ref (md 30)])), ((md 5), .inl (g.1, 200, .inl (aI sn))), ((md 6), .inl (g.1, 200, .inl (aI sl))), ((md 7), .inl (g.1, 800, .inl (aI bo))), ((md 29), .inl (g.2.1, 16000, .inr (.inl (aW mf'))))] → va_S A s.heap H locs → lv_has ls 6 [(0, .ref hm), (1, .int (jI net)), (2, .int (jI layer)), (3, .long (jL acc)), (5, .int (jI i))] → W p l e (jR 4 160) s m args below meth c H locs 0 0 Q (F0 m 5 ls []) := by
    intro fuel
    induction fuel with
    | zero =>
      intro i acc mf' hi ha hfu
      exfalso; omega
    | succ fuel ihL5 =>
      intro i acc mf' hi ha hfu H locs ls hP hD hS hl
      refine lv_iload hx hb dX5_antenna_5 (lv_at hl 4 rfl) ?_
      refine lv_iload_n hx hb dX5_antenna_7 rfl (lv_at hl 2 rfl) ?_
      refine jv_icmp_gt (tgt := 28) hx hb ⟨by omega, by omega⟩ ⟨by omega, by omega⟩ dX5_antenna_8 (by decide) (fun c8 => ?_) (fun c8 => ?_)
      · skip
        refine lv_lload_n hx hb dX5_antenna_28 rfl (lv_at hl 3 rfl) ?_
        exact hret (jL acc) mf' _ _ _ _ (by rw [ha, show i = layer + 1 by omega]; rfl) (hP.sub [0, 1, 2, 3, 4] rfl) (hD.sub [0, 1, 2, 3, 4] (by decide) rfl) hS dX5_antenna_29
      · skip
        refine lv_lload_n hx hb dX5_antenna_11 rfl (lv_at hl 3 rfl) ?_
        refine lv_aload_n hx hb dX5_antenna_12 rfl (lv_at hl 0 rfl) ?_
        refine lv_iload_n hx hb dX5_antenna_13 rfl (lv_at hl 1 rfl) ?_
        refine lv_iload hx hb dX5_antenna_14 (lv_at hl 4 rfl) ?_
        refine jc_Vi (As := [.int (jI net), .int (jI i)]) (rest := [.long (jL acc)]) (wq := []) ⟨hx, hb, hml, hown, hts⟩ (tX5_coveredBy l D g hm md co ly nt ns nd np nq tq sn sl bo L mf' net i (hms) (hns) (hnet) (⟨hi.1, by omega⟩)) (cwV 2 hts gX5_antenna_X5_coveredBy rfl rfl rfl (by decide +kernel) ⟨Nat.le_of_ble_eq_true rfl, Nat.le_of_ble_eq_true rfl⟩) hK hP hD hS hA [0, 1, 2, 3, 4] [] rfl rfl (by decide) (by decide) (by decide) (va_recv hK hP (ci := 5) (q0 := 0) rfl rfl) rfl rfl hl.1 (Nat.le_of_ble_eq_true rfl) dX5_antenna_16 ⟨Nat.le_of_ble_eq_true rfl, Nat.le_of_ble_eq_true rfl⟩ (fun z9 u H locs hu hP hD hS => ?_)
        obtain ⟨mf2, rfl⟩ : ∃ z9, z9 = u := ⟨_, rfl⟩
        have hu : z9 = ar L net i := hu
        have hz9 := hu
        have hP : va_P D jcl [(hm, .inr (5, [.int (jI co), .int (jI ly), .int (jI nt), .ref (md 3), .int (jI ns), .ref (md 5), .ref (md 6), .ref (md 7), .int (jI nd), .ref (md 9), .ref (md 10), .ref (md 11), .int (jI np), .ref (md 13), .ref (md 14), .ref (md 15), .ref (md 16), .ref (md 17), .ref (md 18), .ref (md 19), .ref (md 20), .int (jI nq), .ref (md 22), .ref (md 23), .ref (md 24), .ref (md 25), .ref (md 26), .int (jI tq), .ref (md 28), .ref (md 29), .ref (md 30)])), ((md 5), .inl (g.1, 200, .inl (aI sn))), ((md 6), .inl (g.1, 200, .inl (aI sl))), ((md 7), .inl (g.1, 800, .inl (aI bo))), ((md 29), .inl (g.2.1, 16000, .inr (.inl (aW mf2))))] H := hP
        have hD : va_D A [(hm, .inr (5, [.int (jI co), .int (jI ly), .int (jI nt), .ref (md 3), .int (jI ns), .ref (md 5), .ref (md 6), .ref (md 7), .int (jI nd), .ref (md 9), .ref (md 10), .ref (md 11), .int (jI np), .ref (md 13), .ref (md 14), .ref (md 15), .ref (md 16), .ref (md 17), .ref (md 18), .ref (md 19), .ref (md 20), .int (jI nq), .ref (md 22), .ref (md 23), .ref (md 24), .ref (md 25), .ref (md 26), .int (jI tq), .ref (md 28), .ref (md 29), .ref (md 30)])), ((md 5), .inl (g.1, 200, .inl (aI sn))), ((md 6), .inl (g.1, 200, .inl (aI sl))), ((md 7), .inl (g.1, 800, .inl (aI bo))), ((md 29), .inl (g.2.1, 16000, .inr (.inl (aW mf2))))] := hD
        have hab := ar_bd L net i
        refine jv_i2l hx hb ⟨by omega, by omega⟩ dX5_antenna_19 ?_
        refine jv_ladd hx hb dX5_antenna_20 ?_
        refine jv_nmL (fun x_2 ex_2 => ?_)
        refine lv_lstore_n (lv' := [(3, .long (jL x_2)), (0, .ref hm), (1, .int (jI net)), (2, .int (jI layer)), (5, .int (jI i))]) hx hb dX5_antenna_21 rfl hl (by decide) rfl (fun ls hl => ?_)
        refine jv_iinc (lv2 := [(5, .int (jI (i + 1))), (3, .long (jL x_2)), (0, .ref hm), (1, .int (jI net)), (2, .int (jI layer))]) hx hb dX5_antenna_22 hl (k := 4) rfl (by decide) rfl (fun ls hl => ?_)
        refine lv_goto (tgt := 5) hx hb dX5_antenna_25 (by decide) ?_
        exact ihL5 (i + 1) x_2 mf2 (by omega) (by rw [sm_s hi.1]; omega) (by omega) _ _ _ (hP.sub [0, 1, 2, 3, 4] rfl) (hD.sub [0, 1, 2, 3, 4] (by decide) rfl) hS (lv_sub hl [2, 3, 4, 1, 0] rfl)
  refine jv_lconst0 hx hb dX5_antenna_0 ?_
  refine lv_lstore_n (lv' := [(3, .long (jL 0)), (0, .ref hm), (1, .int (jI net)), (2, .int (jI layer))]) hx hb dX5_antenna_1 rfl hl (by decide) rfl (fun ls hl => ?_)
  refine jv_iconst hx hb dX5_antenna_2 ?_
  refine lv_istore (lv' := [(5, .int (jI 0)), (3, .long (jL 0)), (0, .ref hm), (1, .int (jI net)), (2, .int (jI layer))]) hx hb dX5_antenna_3 hl (by decide) rfl (fun ls hl => ?_)
  exact L5 ((layer + 2 - 0).toNat + 1) 0 0 mf (by omega) ((sm_0 (Int.le_refl 0)).symm) (by omega) _ _ _ (hP.sub [0, 1, 2, 3, 4] rfl) (hD.sub [0, 1, 2, 3, 4] (by decide) rfl) hS (lv_sub hl [2, 3, 4, 1, 0] rfl)

set_option maxHeartbeats 4000000 in
set_option maxRecDepth 100000 in
/-- guard -/
theorem tX5_guard (l : Launch) (D : va_G) (g : ClassId × ClassId × ClassId) (hm : Nat) (md : Nat → Nat) (co : Int) (ly : Int) (nt : Int) (ns : Int) (nd : Int) (np : Int) (nq : Int) (tq : Int) (ga : Int → Int) (tn : Int → Int) (tl : Int → Int) (ta : Int → Int) (TD : List (Int × Int × Int)) (qn : Int → Int) (qs : Int → Int) (qx : Int → Int) (qy : Int → Int) (DD : List jD) (net : Int) (layer : Int) (hmt : mtI tn tl ta nd TD) (hnd : nd ≤ 100) (hmd : mdI qn qs qx qy np DD) (hnp : np ≤ 60) (hga : ∀ k, 0 ≤ ga k ∧ ga k ≤ 1000000000) (hd2 : ∀ d ∈ DD, 0 ≤ d.2 ∧ d.2 < 64) (hnet : 0 ≤ net ∧ net < 40) (hlay : 0 ≤ layer ∧ layer < 64) : jMl l D g yX5_guard wsX5_guard 1 30 [.ref hm, .int (jI net), .int (jI layer)] [(hm, .inr (5, [.int (jI co), .int (jI ly), .int (jI nt), .ref (md 3), .int (jI ns), .ref (md 5), .ref (md 6), .ref (md 7), .int (jI nd), .ref (md 9), .ref (md 10), .ref (md 11), .int (jI np), .ref (md 13), .ref (md 14), .ref (md 15), .ref (md 16), .ref (md 17), .ref (md 18), .ref (md 19), .ref (md 20), .int (jI nq), .ref (md 22), .ref (md 23), .ref (md 24), .ref (md 25), .ref (md 26), .int (jI tq), .ref (md 28), .ref (md 29), .ref (md 30)])), ((md 3), .inl (g.2.1, 40, .inr (.inl (aL ga)))), ((md 9), .inl (g.1, 100, .inl (aI tn))), ((md 10), .inl (g.1, 100, .inl (aI tl))), ((md 11), .inl (g.2.1, 100, .inr (.inl (aL ta)))), ((md 13), .inl (g.1, 60, .inl (aI qn))), ((md 14), .inl (g.1, 60, .inl (aI qs))), ((md 15), .inl (g.1, 60, .inl (aI qx))), ((md 16), .inl (g.1, 60, .inl (aI qy)))] (S := Unit) (fun z _ => z = jL (gdA ga TD DD net layer) ∧ 0 ≤ gdA ga TD DD net layer ∧ gdA ga TD DD net layer ≤ 2000000000) (fun _ => [(hm, .inr (5, [.int (jI co), .int (jI ly), .int (jI nt), .ref (md 3), .int (jI ns), .ref (md 5), .ref (md 6), .ref (md 7), .int (jI nd), .ref (md 9), .ref (md 10), .ref (md 11), .int (jI np), .ref (md 13), .ref (md 14), .ref (md 15), .ref (md 16), .ref (md 17), .ref (md 18), .ref (md 19), .ref (md 20), .int (jI nq), .ref (md 22), .ref (md 23), .ref (md 24), .ref (md 25), .ref (md 26), .int (jI tq), .ref (md 28), .ref (md 29), .ref (md 30)])), ((md 3), .inl (g.2.1, 40, .inr (.inl (aL ga)))), ((md 9), .inl (g.1, 100, .inl (aI tn))), ((md 10), .inl (g.1, 100, .inl (aI tl))), ((md 11), .inl (g.2.1, 100, .inr (.inl (aL ta)))), ((md 13), .inl (g.1, 60, .inl (aI qn))), ((md 14), .inl (g.1, 60, .inl (aI qs))), ((md 15), .inl (g.1, 60, .inl (aI qx))), ((md 16), .inl (g.1, 60, .inl (aI qy)))]) := by
  refine jMl_of (cc := cX5_guard) (maxL := 6) (by decide) rfl (Nat.le_of_ble_eq_true rfl) ?_
  intro p e s m args below meth c Q A hx hb hml hts hown hK hA hret ls hl hP hD
  have hS : va_S A s.heap s.heap [] := va_S.rf
  have hown : s.vm.findClass RX5 = some m.cls := hown
  have f7 := hts (.fieldLink RX5 7 "AntennaFillModel" "gates" "[J") (by decide +kernel)
  have f23 := hts (.fieldLink RX5 23 "AntennaFillModel" "diodeNet" "[I") (by decide +kernel)
  have f26 := hts (.fieldLink RX5 26 "AntennaFillModel" "diodeLayer" "[I") (by decide +kernel)
  have f29 := hts (.fieldLink RX5 29 "AntennaFillModel" "diodeArea" "[J") (by decide +kernel)
  have f32 := hts (.fieldLink RX5 32 "AntennaFillModel" "placedNet" "[I") (by decide +kernel)
  have f35 := hts (.fieldLink RX5 35 "AntennaFillModel" "placedLayer" "[I") (by decide +kernel)
  have f136 := hts (.fieldLink RX5 136 "AntennaFillModel" "diodes" "I") (by decide +kernel)
  have f139 := hts (.fieldLink RX5 139 "AntennaFillModel" "placed" "I") (by decide +kernel)
  have inX5 : ∀ w ∈ wsX50, w ∈ wsX5_guard := by decide +kernel
  have k142 := hts (.constantLong RX5 142 (8)) (by decide +kernel)
  have k144 := hts (.constantLong RX5 144 (128)) (by decide +kernel)
  have hl : lv_has ls 6 [(0, .ref hm), (1, .int (jI net)), (2, .int (jI layer))] := hl
  have hl1 := hmt.1
  have hl2 := hmd.1
  have hgn := hga net
  have htd9 : ∀ d ∈ TD, (0 ≤ d.2.1) ∧ (1 ≤ d.2.2 ∧ d.2.2 ≤ 1000000) := fun d hd => by
    obtain ⟨k, hk⟩ := List.mem_iff_getElem?.mp hd
    have := hmt.2 k d hk
    omega
  have hb1 := tdF_bd net layer (fun d hd => (htd9 d hd).2)
  have hb2 := plF_bd DD net layer
  have L68 : ∀ (fuel : Nat) (i : Int) (acc : Int), (0 ≤ i ∧ i ≤ np) → (acc = ga net + 8 * lsum (tdF net layer) TD + 128 * lsum (plF net layer) (pre DD i)) → (np - i < (fuel : Int)) → ∀ (H : Heap) (locs : List Loc) (ls : Array Slot), va_P D jcl [(hm, .inr (5, [.int (jI co), .int (jI ly), .int (jI nt), .ref (md 3), .int (jI ns), .ref (md 5), .ref (md 6), .ref (md 7), .int (jI nd), .ref (md 9), .ref (md 10), .ref (md 11), .int (jI np), .ref (md 13), .ref (md 14), .ref (md 15), .ref (md 16), .ref (md 17), .ref (md 18), .ref (md 19), .ref (md 20), .int (jI nq), .ref (md 22), .ref (md 23), .ref (md 24), .ref (md 25), .ref (md 26), .int (jI tq), .ref (md 28), .ref (md 29), .ref (md 30)])), ((md 3), .inl (g.2.1, 40, .inr (.inl (aL ga)))), ((md 9), .inl (g.1, 100, .inl (aI tn))), ((md 10), .inl (g.1, 100, .inl (aI tl))), ((md 11), .inl (g.2.1, 100, .inr (.inl (aL ta)))), ((md 13), .inl (g.1, 60, .inl (aI qn))), ((md 14), .inl (g.1, 60, .inl (aI qs))), ((md 15), .inl (g.1, 60, .inl (aI qx))), ((md 16), .inl (g.1, 60, .inl (aI qy)))] H → va_D A [(hm, .inr (5, [.int (jI co), .int (jI ly), .int (jI nt), .ref (md 3), .int (jI ns), .ref (md 5), .ref (md 6), .ref (md 7), .int (jI nd), .ref (md 9), .ref (md 10), .ref (md 11), .int (jI np), .ref (md 13), .ref (md 14), .ref (md 15), .ref (md 16), .ref (md 17), .ref (md 18), .ref (md 19), .ref (md 20), .int (jI nq), .ref (md 22), .ref (md 23), .ref (md 24), .ref (md 25), .ref (md 26), .int (jI tq), .ref (md 28), .ref (md 29), .ref (md 30)])), ((md 3), .inl (g.2.1, 40, .inr (.inl (aL ga)))), ((md 9), .inl (g.1, 100, .inl (aI tn))), ((md 10), .inl (g.1, 100, .inl (aI tl))), ((md 11), .inl (g.2.1, 100, .inr (.inl (aL ta)))), ((md 13), .inl (g.1, 60, .inl (aI qn))), ((md 14), .inl (g.1, 60, .inl (aI qs))), ((md 15), .inl (g.1, 60, .inl (aI qx))), ((md 16), .inl (g.1, 60, .inl (aI qy)))] → va_S A s.heap H locs → lv_has ls 6 [(0, .ref hm), (1, .int (jI net)), (2, .int (jI layer)), (3, .long (jL acc)), (5, .int (jI i))] → W p l e (jR 1 30) s m args below meth c H locs 0 0 Q (F0 m 68 ls []) := by
    intro fuel
    induction fuel with
    | zero =>
      intro i acc hi ha hfu
      exfalso; omega
    | succ fuel ihL68 =>
      intro i acc hi ha hfu H locs ls hP hD hS hl
      have hb3 := plF_bd (pre DD i) net layer
      have hb4 := pre_len DD hi.1
      refine lv_iload hx hb dX5_guard_68 (lv_at hl 4 rfl) ?_
      refine lv_aload_n hx hb dX5_guard_70 rfl (lv_at hl 0 rfl) ?_
      refine va_get (D := D) (ci := 5) (v := .int (jI np)) (C := RX5) (T := TX5) (N := 31) hx hb hts inX5 hown hK hP 0 rfl rfl 12 (by decide) f139 (fun _ h9 => h9) rfl dX5_guard_71 ?_
      refine jv_icmp_ge (tgt := 115) hx hb ⟨by omega, by omega⟩ ⟨by omega, by omega⟩ dX5_guard_74 (by decide) (fun c74 => ?_) (fun c74 => ?_)
      · skip
        refine lv_lload_n hx hb dX5_guard_115 rfl (lv_at hl 3 rfl) ?_
        exact hret (jL acc) () _ _ _ _ (by
          have e9 := gdA_eq (ga := ga) (net := net) hlay.1 (fun d hd => (htd9 d hd).1) (fun d hd => (hd2 d hd).1)
          rw [pre_all (L := DD) (i := i) (by omega)] at ha
          rw [e9, ← ha]
          exact ⟨rfl, by omega, by omega⟩) (hP.sub [0, 1, 2, 3, 4, 5, 6, 7, 8] rfl) (hD.sub [0, 1, 2, 3, 4, 5, 6, 7, 8] (by decide) rfl) hS dX5_guard_116
      · skip
        obtain ⟨d, hq, e0, e1, e2, e3, e4, e5, e6, hok⟩ := md_at hmd (k := i) ⟨hi.1, by omega⟩
        unfold okQ at hok
        have hd9 := hd2 d (List.mem_of_getElem? hq)
        have J107 : ∀ (v9 : Int), (v9 = 128 * plF net layer d ∧ 0 ≤ v9 ∧ v9 ≤ 128) → ∀ (H : Heap) (locs : List Loc) (ls : Array Slot), va_P D jcl [(hm, .inr (5, [.int (jI co), .int (jI ly), .int (jI nt), .ref (md 3), .int (jI ns), .ref (md 5), .ref (md 6), .ref (md 7), .int (jI nd), .ref (md 9), .ref (md 10), .ref (md 11), .int (jI np), .ref (md 13), .ref (md 14), .ref (md 15), .ref (md 16), .ref (md 17), .ref (md 18), .ref (md 19), .ref (md 20), .int (jI nq), .ref (md 22), .ref (md 23), .ref (md 24), .ref (md 25), .ref (md 26), .int (jI tq), .ref (md 28), .ref (md 29), .ref (md 30)])), ((md 3), .inl (g.2.1, 40, .inr (.inl (aL ga)))), ((md 9), .inl (g.1, 100, .inl (aI tn))), ((md 10), .inl (g.1, 100, .inl (aI tl))), ((md 11), .inl (g.2.1, 100, .inr (.inl (aL ta)))), ((md 13), .inl (g.1, 60, .inl (aI qn))), ((md 14), .inl (g.1, 60, .inl (aI qs))), ((md 15), .inl (g.1, 60, .inl (aI qx))), ((md 16), .inl (g.1, 60, .inl (aI qy)))] H → va_D A [(hm, .inr (5, [.int (jI co), .int (jI ly), .int (jI nt), .ref (md 3), .int (jI ns), .ref (md 5), .ref (md 6), .ref (md 7), .int (jI nd), .ref (md 9), .ref (md 10), .ref (md 11), .int (jI np), .ref (md 13), .ref (md 14), .ref (md 15), .ref (md 16), .ref (md 17), .ref (md 18), .ref (md 19), .ref (md 20), .int (jI nq), .ref (md 22), .ref (md 23), .ref (md 24), .ref (md 25), .ref (md 26), .int (jI tq), .ref (md 28), .ref (md 29), .ref (md 30)])), ((md 3), .inl (g.2.1, 40, .inr (.inl (aL ga)))), ((md 9), .inl (g.1, 100, .inl (aI tn))), ((md 10), .inl (g.1, 100, .inl (aI tl))), ((md 11), .inl (g.2.1, 100, .inr (.inl (aL ta)))), ((md 13), .inl (g.1, 60, .inl (aI qn))), ((md 14), .inl (g.1, 60, .inl (aI qs))), ((md 15), .inl (g.1, 60, .inl (aI qx))), ((md 16), .inl (g.1, 60, .inl (aI qy)))] → va_S A s.heap H locs → lv_has ls 6 [(0, .ref hm), (1, .int (jI net)), (2, .int (jI layer)), (3, .long (jL acc)), (5, .int (jI i))] → W p l e (jR 1 30) s m args below meth c H locs 0 0 Q (F0 m 107 ls [.long (jL v9), .long (jL acc)]) := by
          intro v9 hv8 H locs ls hP hD hS hl
          refine jv_ladd hx hb dX5_guard_107 ?_
          refine jv_nmL (fun x_1 ex_1 => ?_)
          refine lv_lstore_n (lv' := [(3, .long (jL x_1)), (0, .ref hm), (1, .int (jI net)), (2, .int (jI layer)), (5, .int (jI i))]) hx hb dX5_guard_108 rfl hl (by decide) rfl (fun ls hl => ?_)
          refine jv_iinc (lv2 := [(5, .int (jI (i + 1))), (3, .long (jL x_1)), (0, .ref hm), (1, .int (jI net)), (2, .int (jI layer))]) hx hb dX5_guard_109 hl (k := 4) rfl (by decide) rfl (fun ls hl => ?_)
          refine lv_goto (tgt := 68) hx hb dX5_guard_112 (by decide) ?_
          exact ihL68 (i + 1) x_1 (by omega) (by rw [lsum_pre _ hi.1 hq]; omega) (by omega) _ _ _ (hP.sub [0, 1, 2, 3, 4, 5, 6, 7, 8] rfl) (hD.sub [0, 1, 2, 3, 4, 5, 6, 7, 8] (by decide) rfl) hS (lv_sub hl [2, 3, 4, 1, 0] rfl)
        refine lv_lload_n hx hb dX5_guard_77 rfl (lv_at hl 3 rfl) ?_
        refine lv_aload_n hx hb dX5_guard_78 rfl (lv_at hl 0 rfl) ?_
        refine va_get (D := D) (ci := 5) (v := .ref (md 13)) (C := RX5) (T := TX5) (N := 31) hx hb hts inX5 hown hK hP 0 rfl rfl 13 (by decide) f32 (fun _ h9 => h9) rfl dX5_guard_79 ?_
        refine lv_iload hx hb dX5_guard_82 (lv_at hl 4 rfl) ?_
        refine jv_iald hx hb hK hP 5 0 rfl rfl (i := i) ⟨by omega, by omega⟩ (Nat.le_of_ble_eq_true rfl) dX5_guard_84 ?_
        refine lv_iload_n hx hb dX5_guard_85 rfl (lv_at hl 1 rfl) ?_
        refine jv_icmp_ne (tgt := 106) hx hb ⟨by omega, by omega⟩ ⟨by omega, by omega⟩ dX5_guard_86 (by decide) (fun c86 => ?_) (fun c86 => ?_)
        · skip
          refine jv_lconst0 hx hb dX5_guard_106 ?_
          exact J107 0 (by
            unfold plF
            first
            | (rw [if_pos ⟨by omega, by omega⟩]; omega)
            | (rw [if_neg (fun r => by omega)]; omega)) _ _ _ (hP.sub [0, 1, 2, 3, 4, 5, 6, 7, 8] rfl) (hD.sub [0, 1, 2, 3, 4, 5, 6, 7, 8] (by decide) rfl) hS (lv_sub hl [0, 1, 2, 3, 4] rfl)
        · skip
          refine lv_aload_n hx hb dX5_guard_89 rfl (lv_at hl 0 rfl) ?_
          refine va_get (D := D) (ci := 5) (v := .ref (md 14)) (C := RX5) (T := TX5) (N := 31) hx hb hts inX5 hown hK hP 0 rfl rfl 14 (by decide) f35 (fun _ h9 => h9) rfl dX5_guard_90 ?_
          refine lv_iload hx hb dX5_guard_93 (lv_at hl 4 rfl) ?_
          refine jv_iald hx hb hK hP 6 0 rfl rfl (i := i) ⟨by omega, by omega⟩ (Nat.le_of_ble_eq_true rfl) dX5_guard_95 ?_
          refine lv_iload_n hx hb dX5_guard_96 rfl (lv_at hl 2 rfl) ?_
          refine jv_icmp_gt (tgt := 106) hx hb ⟨by omega, by omega⟩ ⟨by omega, by omega⟩ dX5_guard_97 (by decide) (fun c97 => ?_) (fun c97 => ?_)
          · skip
            refine jv_lconst0 hx hb dX5_guard_106 ?_
            exact J107 0 (by
              unfold plF
              first
              | (rw [if_pos ⟨by omega, by omega⟩]; omega)
              | (rw [if_neg (fun r => by omega)]; omega)) _ _ _ (hP.sub [0, 1, 2, 3, 4, 5, 6, 7, 8] rfl) (hD.sub [0, 1, 2, 3, 4, 5, 6, 7, 8] (by decide) rfl) hS (lv_sub hl [0, 1, 2, 3, 4] rfl)
          · skip
            refine jv_ldc2 (n := 128) hx hb (by decide) hown k144 dX5_guard_100 ?_
            refine lv_goto (tgt := 107) hx hb dX5_guard_103 (by decide) ?_
            exact J107 128 (by
              unfold plF
              first
              | (rw [if_pos ⟨by omega, by omega⟩]; omega)
              | (rw [if_neg (fun r => by omega)]; omega)) _ _ _ (hP.sub [0, 1, 2, 3, 4, 5, 6, 7, 8] rfl) (hD.sub [0, 1, 2, 3, 4, 5, 6, 7, 8] (by decide) rfl) hS (lv_sub hl [0, 1, 2, 3, 4] rfl)
  have L10 : ∀ (fuel : Nat) (i : Int) (acc : Int), (0 ≤ i ∧ i ≤ nd) → (acc = ga net + 8 * lsum (tdF net layer) (pre TD i)) → (nd - i < (fuel : Int)) → ∀ (H : Heap) (locs : List Loc) (ls : Array Slot), va_P D jcl [(hm, .inr (5, [.int (jI co), .int (jI ly), .int (jI nt), .ref (md 3), .int (jI ns), .ref (md 5), .ref (md 6), .ref (md 7), .int (jI nd), .ref (md 9), .ref (md 10), .ref (md 11), .int (jI np), .ref (md 13), .ref (md 14), .ref (md 15), .ref (md 16), .ref (md 17), .ref (md 18), .ref (md 19), .ref (md 20), .int (jI nq), .ref (md 22), .ref (md 23), .ref (md 24), .ref (md 25), .ref (md 26), .int (jI tq), .ref (md 28), .ref (md 29), .ref (md 30)])), ((md 3), .inl (g.2.1, 40, .inr (.inl (aL ga)))), ((md 9), .inl (g.1, 100, .inl (aI tn))), ((md 10), .inl (g.1, 100, .inl (aI tl))), ((md 11), .inl (g.2.1, 100, .inr (.inl (aL ta)))), ((md 13), .inl (g.1, 60, .inl (aI qn))), ((md 14), .inl (g.1, 60, .inl (aI qs))), ((md 15), .inl (g.1, 60, .inl (aI qx))), ((md 16), .inl (g.1, 60, .inl (aI qy)))] H → va_D A [(hm, .inr (5, [.int (jI co), .int (jI ly), .int (jI nt), .ref (md 3), .int (jI ns), .ref (md 5), .ref (md 6), .ref (md 7), .int (jI nd), .ref (md 9), .ref (md 10), .ref (md 11), .int (jI np), .ref (md 13), .ref (md 14), .ref (md 15), .ref (md 16), .ref (md 17), .ref (md 18), .ref (md 19), .ref (md 20), .int (jI nq), .ref (md 22), .ref (md 23), .ref (md 24), .ref (md 25), .ref (md 26), .int (jI tq), .ref (md 28), .ref (md 29), .ref (md 30)])), ((md 3), .inl (g.2.1, 40, .inr (.inl (aL ga)))), ((md 9), .inl (g.1, 100, .inl (aI tn))), ((md 10), .inl (g.1, 100, .inl (aI tl))), ((md 11), .inl (g.2.1, 100, .inr (.inl (aL ta)))), ((md 13), .inl (g.1, 60, .inl (aI qn))), ((md 14), .inl (g.1, 60, .inl (aI qs))), ((md 15), .inl (g.1, 60, .inl (aI qx))), ((md 16), .inl (g.1, 60, .inl (aI qy)))] → va_S A s.heap H locs → lv_has ls 6 [(0, .ref hm), (1, .int (jI net)), (2, .int (jI layer)), (3, .long (jL acc)), (5, .int (jI i))] → W p l e (jR 1 30) s m args below meth c H locs 0 0 Q (F0 m 10 ls []) := by
    intro fuel
    induction fuel with
    | zero =>
      intro i acc hi ha hfu
      exfalso; omega
    | succ fuel ihL10 =>
      intro i acc hi ha hfu H locs ls hP hD hS hl
      have hb3 := tdF_bd (TD := pre TD i) net layer (fun d hd => (htd9 d (pre_in hd)).2)
      have hb4 := pre_len TD hi.1
      refine lv_iload hx hb dX5_guard_10 (lv_at hl 4 rfl) ?_
      refine lv_aload_n hx hb dX5_guard_12 rfl (lv_at hl 0 rfl) ?_
      refine va_get (D := D) (ci := 5) (v := .int (jI nd)) (C := RX5) (T := TX5) (N := 31) hx hb hts inX5 hown hK hP 0 rfl rfl 8 (by decide) f136 (fun _ h9 => h9) rfl dX5_guard_13 ?_
      refine jv_icmp_ge (tgt := 65) hx hb ⟨by omega, by omega⟩ ⟨by omega, by omega⟩ dX5_guard_16 (by decide) (fun c16 => ?_) (fun c16 => ?_)
      · skip
        refine jv_iconst hx hb dX5_guard_65 ?_
        refine lv_istore (lv' := [(5, .int (jI 0)), (0, .ref hm), (1, .int (jI net)), (2, .int (jI layer)), (3, .long (jL acc))]) hx hb dX5_guard_66 hl (by decide) rfl (fun ls hl => ?_)
        exact L68 ((np - 0).toNat + 1) 0 acc (by omega) (by rw [pre_0, ← pre_all (L := TD) (i := i) (by omega)]; show _ = ga net + 8 * _ + 128 * 0; omega) (by omega) _ _ _ (hP.sub [0, 1, 2, 3, 4, 5, 6, 7, 8] rfl) (hD.sub [0, 1, 2, 3, 4, 5, 6, 7, 8] (by decide) rfl) hS (lv_sub hl [1, 2, 3, 4, 0] rfl)
      · skip
        obtain ⟨d, hq, e0, e1, e2, e3, e4, e5, e6, e7, e8⟩ := mt_at hmt (k := i) ⟨hi.1, by omega⟩
        have J57 : ∀ (v9 : Int), (v9 = 8 * tdF net layer d ∧ 0 ≤ v9 ∧ v9 ≤ 8000000) → ∀ (H : Heap) (locs : List Loc) (ls : Array Slot), va_P D jcl [(hm, .inr (5, [.int (jI co), .int (jI ly), .int (jI nt), .ref (md 3), .int (jI ns), .ref (md 5), .ref (md 6), .ref (md 7), .int (jI nd), .ref (md 9), .ref (md 10), .ref (md 11), .int (jI np), .ref (md 13), .ref (md 14), .ref (md 15), .ref (md 16), .ref (md 17), .ref (md 18), .ref (md 19), .ref (md 20), .int (jI nq), .ref (md 22), .ref (md 23), .ref (md 24), .ref (md 25), .ref (md 26), .int (jI tq), .ref (md 28), .ref (md 29), .ref (md 30)])), ((md 3), .inl (g.2.1, 40, .inr (.inl (aL ga)))), ((md 9), .inl (g.1, 100, .inl (aI tn))), ((md 10), .inl (g.1, 100, .inl (aI tl))), ((md 11), .inl (g.2.1, 100, .inr (.inl (aL ta)))), ((md 13), .inl (g.1, 60, .inl (aI qn))), ((md 14), .inl (g.1, 60, .inl (aI qs))), ((md 15), .inl (g.1, 60, .inl (aI qx))), ((md 16), .inl (g.1, 60, .inl (aI qy)))] H → va_D A [(hm, .inr (5, [.int (jI co), .int (jI ly), .int (jI nt), .ref (md 3), .int (jI ns), .ref (md 5), .ref (md 6), .ref (md 7), .int (jI nd), .ref (md 9), .ref (md 10), .ref (md 11), .int (jI np), .ref (md 13), .ref (md 14), .ref (md 15), .ref (md 16), .ref (md 17), .ref (md 18), .ref (md 19), .ref (md 20), .int (jI nq), .ref (md 22), .ref (md 23), .ref (md 24), .ref (md 25), .ref (md 26), .int (jI tq), .ref (md 28), .ref (md 29), .ref (md 30)])), ((md 3), .inl (g.2.1, 40, .inr (.inl (aL ga)))), ((md 9), .inl (g.1, 100, .inl (aI tn))), ((md 10), .inl (g.1, 100, .inl (aI tl))), ((md 11), .inl (g.2.1, 100, .inr (.inl (aL ta)))), ((md 13), .inl (g.1, 60, .inl (aI qn))), ((md 14), .inl (g.1, 60, .inl (aI qs))), ((md 15), .inl (g.1, 60, .inl (aI qx))), ((md 16), .inl (g.1, 60, .inl (aI qy)))] → va_S A s.heap H locs → lv_has ls 6 [(0, .ref hm), (1, .int (jI net)), (2, .int (jI layer)), (3, .long (jL acc)), (5, .int (jI i))] → W p l e (jR 1 30) s m args below meth c H locs 0 0 Q (F0 m 57 ls [.long (jL v9), .long (jL acc)]) := by
          intro v9 hv8 H locs ls hP hD hS hl
          refine jv_ladd hx hb dX5_guard_57 ?_
          refine jv_nmL (fun x_2 ex_2 => ?_)
          refine lv_lstore_n (lv' := [(3, .long (jL x_2)), (0, .ref hm), (1, .int (jI net)), (2, .int (jI layer)), (5, .int (jI i))]) hx hb dX5_guard_58 rfl hl (by decide) rfl (fun ls hl => ?_)
          refine jv_iinc (lv2 := [(5, .int (jI (i + 1))), (3, .long (jL x_2)), (0, .ref hm), (1, .int (jI net)), (2, .int (jI layer))]) hx hb dX5_guard_59 hl (k := 4) rfl (by decide) rfl (fun ls hl => ?_)
          refine lv_goto (tgt := 10) hx hb dX5_guard_62 (by decide) ?_
          exact ihL10 (i + 1) x_2 (by omega) (by rw [lsum_pre _ hi.1 hq]; omega) (by omega) _ _ _ (hP.sub [0, 1, 2, 3, 4, 5, 6, 7, 8] rfl) (hD.sub [0, 1, 2, 3, 4, 5, 6, 7, 8] (by decide) rfl) hS (lv_sub hl [2, 3, 4, 1, 0] rfl)
        refine lv_lload_n hx hb dX5_guard_19 rfl (lv_at hl 3 rfl) ?_
        refine lv_aload_n hx hb dX5_guard_20 rfl (lv_at hl 0 rfl) ?_
        refine va_get (D := D) (ci := 5) (v := .ref (md 9)) (C := RX5) (T := TX5) (N := 31) hx hb hts inX5 hown hK hP 0 rfl rfl 9 (by decide) f23 (fun _ h9 => h9) rfl dX5_guard_21 ?_
        refine lv_iload hx hb dX5_guard_24 (lv_at hl 4 rfl) ?_
        refine jv_iald hx hb hK hP 2 0 rfl rfl (i := i) ⟨by omega, by omega⟩ (Nat.le_of_ble_eq_true rfl) dX5_guard_26 ?_
        refine lv_iload_n hx hb dX5_guard_27 rfl (lv_at hl 1 rfl) ?_
        refine jv_icmp_ne (tgt := 56) hx hb ⟨by omega, by omega⟩ ⟨by omega, by omega⟩ dX5_guard_28 (by decide) (fun c28 => ?_) (fun c28 => ?_)
        · skip
          refine jv_lconst0 hx hb dX5_guard_56 ?_
          exact J57 0 (by
            unfold tdF
            first
            | (rw [if_pos ⟨by omega, by omega⟩]; omega)
            | (rw [if_neg (fun r => by omega)]; omega)) _ _ _ (hP.sub [0, 1, 2, 3, 4, 5, 6, 7, 8] rfl) (hD.sub [0, 1, 2, 3, 4, 5, 6, 7, 8] (by decide) rfl) hS (lv_sub hl [0, 1, 2, 3, 4] rfl)
        · skip
          refine lv_aload_n hx hb dX5_guard_31 rfl (lv_at hl 0 rfl) ?_
          refine va_get (D := D) (ci := 5) (v := .ref (md 10)) (C := RX5) (T := TX5) (N := 31) hx hb hts inX5 hown hK hP 0 rfl rfl 10 (by decide) f26 (fun _ h9 => h9) rfl dX5_guard_32 ?_
          refine lv_iload hx hb dX5_guard_35 (lv_at hl 4 rfl) ?_
          refine jv_iald hx hb hK hP 3 0 rfl rfl (i := i) ⟨by omega, by omega⟩ (Nat.le_of_ble_eq_true rfl) dX5_guard_37 ?_
          refine lv_iload_n hx hb dX5_guard_38 rfl (lv_at hl 2 rfl) ?_
          refine jv_icmp_gt (tgt := 56) hx hb ⟨by omega, by omega⟩ ⟨by omega, by omega⟩ dX5_guard_39 (by decide) (fun c39 => ?_) (fun c39 => ?_)
          · skip
            refine jv_lconst0 hx hb dX5_guard_56 ?_
            exact J57 0 (by
              unfold tdF
              first
              | (rw [if_pos ⟨by omega, by omega⟩]; omega)
              | (rw [if_neg (fun r => by omega)]; omega)) _ _ _ (hP.sub [0, 1, 2, 3, 4, 5, 6, 7, 8] rfl) (hD.sub [0, 1, 2, 3, 4, 5, 6, 7, 8] (by decide) rfl) hS (lv_sub hl [0, 1, 2, 3, 4] rfl)
          · skip
            refine jv_ldc2 (n := 8) hx hb (by decide) hown k142 dX5_guard_42 ?_
            refine lv_aload_n hx hb dX5_guard_45 rfl (lv_at hl 0 rfl) ?_
            refine va_get (D := D) (ci := 5) (v := .ref (md 11)) (C := RX5) (T := TX5) (N := 31) hx hb hts inX5 hown hK hP 0 rfl rfl 11 (by decide) f29 (fun _ h9 => h9) rfl dX5_guard_46 ?_
            refine lv_iload hx hb dX5_guard_49 (lv_at hl 4 rfl) ?_
            refine jv_lald hx hb hK hP 4 1 rfl rfl (i := i) ⟨by omega, by omega⟩ (Nat.le_of_ble_eq_true rfl) dX5_guard_51 ?_
            refine jv_lmul hx hb dX5_guard_52 ?_
            refine lv_goto (tgt := 57) hx hb dX5_guard_53 (by decide) ?_
            exact J57 (8 * (ta i)) (by
              unfold tdF
              first
              | (rw [if_pos ⟨by omega, by omega⟩]; omega)
              | (rw [if_neg (fun r => by omega)]; omega)) _ _ _ (hP.sub [0, 1, 2, 3, 4, 5, 6, 7, 8] rfl) (hD.sub [0, 1, 2, 3, 4, 5, 6, 7, 8] (by decide) rfl) hS (lv_sub hl [0, 1, 2, 3, 4] rfl)
  refine lv_aload_n hx hb dX5_guard_0 rfl (lv_at hl 0 rfl) ?_
  refine va_get (D := D) (ci := 5) (v := .ref (md 3)) (C := RX5) (T := TX5) (N := 31) hx hb hts inX5 hown hK hP 0 rfl rfl 3 (by decide) f7 (fun _ h9 => h9) rfl dX5_guard_1 ?_
  refine lv_iload_n hx hb dX5_guard_4 rfl (lv_at hl 1 rfl) ?_
  refine jv_lald hx hb hK hP 1 1 rfl rfl (i := net) ⟨by omega, by omega⟩ (Nat.le_of_ble_eq_true rfl) dX5_guard_5 ?_
  refine jv_nmL (fun x_3 ex_3 => ?_)
  refine lv_lstore_n (lv' := [(3, .long (jL x_3)), (0, .ref hm), (1, .int (jI net)), (2, .int (jI layer))]) hx hb dX5_guard_6 rfl hl (by decide) rfl (fun ls hl => ?_)
  refine jv_iconst hx hb dX5_guard_7 ?_
  refine lv_istore (lv' := [(5, .int (jI 0)), (3, .long (jL x_3)), (0, .ref hm), (1, .int (jI net)), (2, .int (jI layer))]) hx hb dX5_guard_8 hl (by decide) rfl (fun ls hl => ?_)
  exact L10 ((nd - 0).toNat + 1) 0 x_3 (by omega) (by rw [pre_0]; show _ = ga net + 8 * 0; omega) (by omega) _ _ _ (hP.sub [0, 1, 2, 3, 4, 5, 6, 7, 8] rfl) (hD.sub [0, 1, 2, 3, 4, 5, 6, 7, 8] (by decide) rfl) hS (lv_sub hl [2, 3, 4, 1, 0] rfl)

set_option maxHeartbeats 4000000 in
set_option maxRecDepth 100000 in
/-- isOver -/
theorem tX5_isOver (l : Launch) (D : va_G) (g : ClassId × ClassId × ClassId) (hm : Nat) (md : Nat → Nat) (co : Int) (ly : Int) (nt : Int) (ns : Int) (nd : Int) (np : Int) (nq : Int) (tq : Int) (ga : Int → Int) (la : Int → Int) (lb : Int → Int) (tn : Int → Int) (tl : Int → Int) (ta : Int → Int) (TD : List (Int × Int × Int)) (qn : Int → Int) (qs : Int → Int) (qx : Int → Int) (qy : Int → Int) (DD : List jD) (net : Int) (layer : Int) (sm9 : Int) (hmt : mtI tn tl ta nd TD) (hnd : nd ≤ 100) (hmd : mdI qn qs qx qy np DD) (hnp : np ≤ 60) (hga : ∀ k, 0 ≤ ga k ∧ ga k ≤ 1000000000) (hd2 : ∀ d ∈ DD, 0 ≤ d.2 ∧ d.2 < 64) (hnet : 0 ≤ net ∧ net < 40) (hlay : 0 ≤ layer ∧ layer < 64) (hla : ∀ k, 0 ≤ la k ∧ la k ≤ 1000000) (hlb : ∀ k, 0 ≤ lb k ∧ lb k ≤ 1000000) (hsm : 0 ≤ sm9 ∧ sm9 ≤ 64000000) : jMi l D g yX5_isOver wsX5_isOver 2 80 [.ref hm, .int (jI net), .int (jI layer), .long (jL sm9)] [(hm, .inr (5, [.int (jI co), .int (jI ly), .int (jI nt), .ref (md 3), .int (jI ns), .ref (md 5), .ref (md 6), .ref (md 7), .int (jI nd), .ref (md 9), .ref (md 10), .ref (md 11), .int (jI np), .ref (md 13), .ref (md 14), .ref (md 15), .ref (md 16), .ref (md 17), .ref (md 18), .ref (md 19), .ref (md 20), .int (jI nq), .ref (md 22), .ref (md 23), .ref (md 24), .ref (md 25), .ref (md 26), .int (jI tq), .ref (md 28), .ref (md 29), .ref (md 30)])), ((md 3), .inl (g.2.1, 40, .inr (.inl (aL ga)))), ((md 9), .inl (g.1, 100, .inl (aI tn))), ((md 10), .inl (g.1, 100, .inl (aI tl))), ((md 11), .inl (g.2.1, 100, .inr (.inl (aL ta)))), ((md 13), .inl (g.1, 60, .inl (aI qn))), ((md 14), .inl (g.1, 60, .inl (aI qs))), ((md 15), .inl (g.1, 60, .inl (aI qx))), ((md 16), .inl (g.1, 60, .inl (aI qy))), ((md 17), .inl (g.2.1, 64, .inr (.inl (aL la)))), ((md 18), .inl (g.2.1, 64, .inr (.inl (aL lb))))] (S := Unit) (fun z _ => (z = 1 ∧ (0 < ga net ∧ 0 < lb layer ∧ la layer * gdA ga TD DD net layer < sm9 * lb layer)) ∨ (z = 0 ∧ ¬ (0 < ga net ∧ 0 < lb layer ∧ la layer * gdA ga TD DD net layer < sm9 * lb layer))) (fun _ => [(hm, .inr (5, [.int (jI co), .int (jI ly), .int (jI nt), .ref (md 3), .int (jI ns), .ref (md 5), .ref (md 6), .ref (md 7), .int (jI nd), .ref (md 9), .ref (md 10), .ref (md 11), .int (jI np), .ref (md 13), .ref (md 14), .ref (md 15), .ref (md 16), .ref (md 17), .ref (md 18), .ref (md 19), .ref (md 20), .int (jI nq), .ref (md 22), .ref (md 23), .ref (md 24), .ref (md 25), .ref (md 26), .int (jI tq), .ref (md 28), .ref (md 29), .ref (md 30)])), ((md 3), .inl (g.2.1, 40, .inr (.inl (aL ga)))), ((md 9), .inl (g.1, 100, .inl (aI tn))), ((md 10), .inl (g.1, 100, .inl (aI tl))), ((md 11), .inl (g.2.1, 100, .inr (.inl (aL ta)))), ((md 13), .inl (g.1, 60, .inl (aI qn))), ((md 14), .inl (g.1, 60, .inl (aI qs))), ((md 15), .inl (g.1, 60, .inl (aI qx))), ((md 16), .inl (g.1, 60, .inl (aI qy))), ((md 17), .inl (g.2.1, 64, .inr (.inl (aL la)))), ((md 18), .inl (g.2.1, 64, .inr (.inl (aL lb))))]) := by
  refine jMz_of (cc := cX5_isOver) (maxL := 5) (by decide) rfl (Nat.le_of_ble_eq_true rfl) ?_
  intro p e s m args below meth c Q A hx hb hml hts hown hK hA hret ls hl hP hD
  have hS : va_S A s.heap s.heap [] := va_S.rf
  have hown : s.vm.findClass RX5 = some m.cls := hown
  have f7 := hts (.fieldLink RX5 7 "AntennaFillModel" "gates" "[J") (by decide +kernel)
  have f44 := hts (.fieldLink RX5 44 "AntennaFillModel" "above" "[J") (by decide +kernel)
  have f47 := hts (.fieldLink RX5 47 "AntennaFillModel" "below" "[J") (by decide +kernel)
  have inX5 : ∀ w ∈ wsX50, w ∈ wsX5_isOver := by decide +kernel
  have hl : lv_has ls 5 [(0, .ref hm), (1, .int (jI net)), (2, .int (jI layer)), (3, .long (jL sm9))] := hl
  have b1 := hga net
  have b2 := hla layer
  have b3 := hlb layer
  have b4 := mul_bd hsm b3
  refine lv_aload_n hx hb dX5_isOver_0 rfl (lv_at hl 0 rfl) ?_
  refine va_get (D := D) (ci := 5) (v := .ref (md 3)) (C := RX5) (T := TX5) (N := 31) hx hb hts inX5 hown hK hP 0 rfl rfl 3 (by decide) f7 (fun _ h9 => h9) rfl dX5_isOver_1 ?_
  refine lv_iload_n hx hb dX5_isOver_4 rfl (lv_at hl 1 rfl) ?_
  refine jv_lald hx hb hK hP 1 1 rfl rfl (i := net) ⟨by omega, by omega⟩ (Nat.le_of_ble_eq_true rfl) dX5_isOver_5 ?_
  refine jv_lconst0 hx hb dX5_isOver_6 ?_
  refine jv_lcmp_le (tgt := 51) hx hb ⟨by omega, by omega⟩ ⟨by decide, by decide⟩ dX5_isOver_7 dX5_isOver_8 (by decide) (fun c7 => ?_) (fun c7 => ?_)
  · skip
    refine jv_iconst hx hb dX5_isOver_51 ?_
    exact hret 0 () _ _ _ _ (by omega) (Or.inr ⟨rfl, fun q9 => by have q8 := q9.1; have q7 := q9.2.1; have q6 := q9.2.2; omega⟩) (hP.sub [0, 1, 2, 3, 4, 5, 6, 7, 8, 9, 10] rfl) (hD.sub [0, 1, 2, 3, 4, 5, 6, 7, 8, 9, 10] (by decide) rfl) hS dX5_isOver_52
  · skip
    refine lv_aload_n hx hb dX5_isOver_11 rfl (lv_at hl 0 rfl) ?_
    refine va_get (D := D) (ci := 5) (v := .ref (md 18)) (C := RX5) (T := TX5) (N := 31) hx hb hts inX5 hown hK hP 0 rfl rfl 18 (by decide) f47 (fun _ h9 => h9) rfl dX5_isOver_12 ?_
    refine lv_iload_n hx hb dX5_isOver_15 rfl (lv_at hl 2 rfl) ?_
    refine jv_lald hx hb hK hP 10 1 rfl rfl (i := layer) ⟨by omega, by omega⟩ (Nat.le_of_ble_eq_true rfl) dX5_isOver_16 ?_
    refine jv_lconst0 hx hb dX5_isOver_17 ?_
    refine jv_lcmp_le (tgt := 51) hx hb ⟨by omega, by omega⟩ ⟨by decide, by decide⟩ dX5_isOver_18 dX5_isOver_19 (by decide) (fun c18 => ?_) (fun c18 => ?_)
    · skip
      refine jv_iconst hx hb dX5_isOver_51 ?_
      exact hret 0 () _ _ _ _ (by omega) (Or.inr ⟨rfl, fun q9 => by have q8 := q9.1; have q7 := q9.2.1; have q6 := q9.2.2; omega⟩) (hP.sub [0, 1, 2, 3, 4, 5, 6, 7, 8, 9, 10] rfl) (hD.sub [0, 1, 2, 3, 4, 5, 6, 7, 8, 9, 10] (by decide) rfl) hS dX5_isOver_52
    · skip
      refine lv_lload_n hx hb dX5_isOver_22 rfl (lv_at hl 3 rfl) ?_
      refine lv_aload_n hx hb dX5_isOver_23 rfl (lv_at hl 0 rfl) ?_
      refine va_get (D := D) (ci := 5) (v := .ref (md 18)) (C := RX5) (T := TX5) (N := 31) hx hb hts inX5 hown hK hP 0 rfl rfl 18 (by decide) f47 (fun _ h9 => h9) rfl dX5_isOver_24 ?_
      refine lv_iload_n hx hb dX5_isOver_27 rfl (lv_at hl 2 rfl) ?_
      refine jv_lald hx hb hK hP 10 1 rfl rfl (i := layer) ⟨by omega, by omega⟩ (Nat.le_of_ble_eq_true rfl) dX5_isOver_28 ?_
      refine jv_lmul hx hb dX5_isOver_29 ?_
      refine lv_aload_n hx hb dX5_isOver_30 rfl (lv_at hl 0 rfl) ?_
      refine va_get (D := D) (ci := 5) (v := .ref (md 17)) (C := RX5) (T := TX5) (N := 31) hx hb hts inX5 hown hK hP 0 rfl rfl 17 (by decide) f44 (fun _ h9 => h9) rfl dX5_isOver_31 ?_
      refine lv_iload_n hx hb dX5_isOver_34 rfl (lv_at hl 2 rfl) ?_
      refine jv_lald hx hb hK hP 9 1 rfl rfl (i := layer) ⟨by omega, by omega⟩ (Nat.le_of_ble_eq_true rfl) dX5_isOver_35 ?_
      refine lv_aload_n hx hb dX5_isOver_36 rfl (lv_at hl 0 rfl) ?_
      refine lv_iload_n hx hb dX5_isOver_37 rfl (lv_at hl 1 rfl) ?_
      refine lv_iload_n hx hb dX5_isOver_38 rfl (lv_at hl 2 rfl) ?_
      refine jc_Vl (As := [.int (jI net), .int (jI layer)]) (rest := [.long (jL (la layer)), .long (jL (sm9 * (lb layer)))]) (wq := [((md 17), .inl (g.2.1, 64, .inr (.inl (aL la)))), ((md 18), .inl (g.2.1, 64, .inr (.inl (aL lb))))]) ⟨hx, hb, hml, hown, hts⟩ (tX5_guard l D g hm md co ly nt ns nd np nq tq ga tn tl ta TD qn qs qx qy DD net layer (hmt) (hnd) (hmd) (hnp) (hga) (hd2) (hnet) (hlay)) (cwV 2 hts gX5_isOver_X5_guard rfl rfl rfl (by decide +kernel) ⟨Nat.le_of_ble_eq_true rfl, Nat.le_of_ble_eq_true rfl⟩) hK hP hD hS hA [0, 1, 2, 3, 4, 5, 6, 7, 8] [9, 10] rfl rfl (by decide) (by decide) (by decide) (va_recv hK hP (ci := 5) (q0 := 0) rfl rfl) rfl rfl hl.1 (Nat.le_of_ble_eq_true rfl) dX5_isOver_39 ⟨Nat.le_of_ble_eq_true rfl, Nat.le_of_ble_eq_true rfl⟩ (fun z9 u H locs hu hP hD hS => ?_)
      have hu : z9 = jL (gdA ga TD DD net layer) ∧ 0 ≤ gdA ga TD DD net layer ∧ gdA ga TD DD net layer ≤ 2000000000 := hu
      obtain ⟨hz9, hz8, hz7⟩ := hu
      have hP : va_P D jcl [((md 17), .inl (g.2.1, 64, .inr (.inl (aL la)))), ((md 18), .inl (g.2.1, 64, .inr (.inl (aL lb)))), (hm, .inr (5, [.int (jI co), .int (jI ly), .int (jI nt), .ref (md 3), .int (jI ns), .ref (md 5), .ref (md 6), .ref (md 7), .int (jI nd), .ref (md 9), .ref (md 10), .ref (md 11), .int (jI np), .ref (md 13), .ref (md 14), .ref (md 15), .ref (md 16), .ref (md 17), .ref (md 18), .ref (md 19), .ref (md 20), .int (jI nq), .ref (md 22), .ref (md 23), .ref (md 24), .ref (md 25), .ref (md 26), .int (jI tq), .ref (md 28), .ref (md 29), .ref (md 30)])), ((md 3), .inl (g.2.1, 40, .inr (.inl (aL ga)))), ((md 9), .inl (g.1, 100, .inl (aI tn))), ((md 10), .inl (g.1, 100, .inl (aI tl))), ((md 11), .inl (g.2.1, 100, .inr (.inl (aL ta)))), ((md 13), .inl (g.1, 60, .inl (aI qn))), ((md 14), .inl (g.1, 60, .inl (aI qs))), ((md 15), .inl (g.1, 60, .inl (aI qx))), ((md 16), .inl (g.1, 60, .inl (aI qy)))] H := hP
      have hD : va_D A [((md 17), .inl (g.2.1, 64, .inr (.inl (aL la)))), ((md 18), .inl (g.2.1, 64, .inr (.inl (aL lb)))), (hm, .inr (5, [.int (jI co), .int (jI ly), .int (jI nt), .ref (md 3), .int (jI ns), .ref (md 5), .ref (md 6), .ref (md 7), .int (jI nd), .ref (md 9), .ref (md 10), .ref (md 11), .int (jI np), .ref (md 13), .ref (md 14), .ref (md 15), .ref (md 16), .ref (md 17), .ref (md 18), .ref (md 19), .ref (md 20), .int (jI nq), .ref (md 22), .ref (md 23), .ref (md 24), .ref (md 25), .ref (md 26), .int (jI tq), .ref (md 28), .ref (md 29), .ref (md 30)])), ((md 3), .inl (g.2.1, 40, .inr (.inl (aL ga)))), ((md 9), .inl (g.1, 100, .inl (aI tn))), ((md 10), .inl (g.1, 100, .inl (aI tl))), ((md 11), .inl (g.2.1, 100, .inr (.inl (aL ta)))), ((md 13), .inl (g.1, 60, .inl (aI qn))), ((md 14), .inl (g.1, 60, .inl (aI qs))), ((md 15), .inl (g.1, 60, .inl (aI qx))), ((md 16), .inl (g.1, 60, .inl (aI qy)))] := hD
      subst hz9
      have b5 := mul_bd b2 ⟨hz8, hz7⟩
      refine jv_lmul hx hb dX5_isOver_42 ?_
      refine jv_lcmp_le (tgt := 51) hx hb ⟨by omega, by omega⟩ ⟨by omega, by omega⟩ dX5_isOver_43 dX5_isOver_44 (by decide) (fun c43 => ?_) (fun c43 => ?_)
      · skip
        refine jv_iconst hx hb dX5_isOver_51 ?_
        exact hret 0 () _ _ _ _ (by omega) (Or.inr ⟨rfl, fun q9 => by have q8 := q9.1; have q7 := q9.2.1; have q6 := q9.2.2; omega⟩) (hP.sub [2, 3, 4, 5, 6, 7, 8, 9, 10, 0, 1] rfl) (hD.sub [2, 3, 4, 5, 6, 7, 8, 9, 10, 0, 1] (by decide) rfl) hS dX5_isOver_52
      · skip
        refine jv_iconst hx hb dX5_isOver_47 ?_
        refine lv_goto (tgt := 52) hx hb dX5_isOver_48 (by decide) ?_
        exact hret 1 () _ _ _ _ (by omega) (Or.inl ⟨rfl, by omega, by omega, by omega⟩) (hP.sub [2, 3, 4, 5, 6, 7, 8, 9, 10, 0, 1] rfl) (hD.sub [2, 3, 4, 5, 6, 7, 8, 9, 10, 0, 1] (by decide) rfl) hS dX5_isOver_52

set_option maxHeartbeats 4000000 in
set_option maxRecDepth 100000 in
/-- bar -/
theorem tX5_bar (l : Launch) (D : va_G) (g : ClassId × ClassId × ClassId) (hm : Nat) (md : Nat → Nat) (co : Int) (ly : Int) (nt : Int) (ns : Int) (nd : Int) (np : Int) (nq : Int) (tq : Int) (mf : Int → Int64) (x0 : Int) (y0 : Int) (x1 : Int) (y1 : Int) (hxy : (-2000 ≤ x0 ∧ x0 ≤ 2000) ∧ (-2000 ≤ y0 ∧ y0 ≤ 2000) ∧ (-2000 ≤ x1 ∧ x1 ≤ 2000) ∧ (-2000 ≤ y1 ∧ y1 ≤ 2000)) : jMv l D g yX5_bar wsX5_bar 3 100 [.ref hm, .int (jI x0), .int (jI y0), .int (jI x1), .int (jI y1)] [(hm, .inr (5, [.int (jI co), .int (jI ly), .int (jI nt), .ref (md 3), .int (jI ns), .ref (md 5), .ref (md 6), .ref (md 7), .int (jI nd), .ref (md 9), .ref (md 10), .ref (md 11), .int (jI np), .ref (md 13), .ref (md 14), .ref (md 15), .ref (md 16), .ref (md 17), .ref (md 18), .ref (md 19), .ref (md 20), .int (jI nq), .ref (md 22), .ref (md 23), .ref (md 24), .ref (md 25), .ref (md 26), .int (jI tq), .ref (md 28), .ref (md 29), .ref (md 30)])), ((md 29), .inl (g.2.1, 16000, .inr (.inl (aW mf))))] (S := (Int → Int64)) (fun u => mkM mf u (x0 - 5) (y0 - 5) (x1 + 2) (y1 + 2)) (fun u => [(hm, .inr (5, [.int (jI co), .int (jI ly), .int (jI nt), .ref (md 3), .int (jI ns), .ref (md 5), .ref (md 6), .ref (md 7), .int (jI nd), .ref (md 9), .ref (md 10), .ref (md 11), .int (jI np), .ref (md 13), .ref (md 14), .ref (md 15), .ref (md 16), .ref (md 17), .ref (md 18), .ref (md 19), .ref (md 20), .int (jI nq), .ref (md 22), .ref (md 23), .ref (md 24), .ref (md 25), .ref (md 26), .int (jI tq), .ref (md 28), .ref (md 29), .ref (md 30)])), ((md 29), .inl (g.2.1, 16000, .inr (.inl (aW u))))]) := by
  refine jMv_of (cc := cX5_bar) (maxL := 5) (by decide) rfl (Nat.le_of_ble_eq_true rfl) ?_
  intro p e s m args below meth c Q A hx hb hml hts hown hK hA hret ls hl hP hD
  have hS : va_S A s.heap s.heap [] := va_S.rf
  have hown : s.vm.findClass RX5 = some m.cls := hown
  have f74 := hts (.fieldLink RX5 74 "AntennaFillModel" "marks" "[J") (by decide +kernel)
  have inX5 : ∀ w ∈ wsX50, w ∈ wsX5_bar := by decide +kernel
  have hl : lv_has ls 5 [(0, .ref hm), (1, .int (jI x0)), (2, .int (jI y0)), (3, .int (jI x1)), (4, .int (jI y1))] := hl
  refine lv_aload_n hx hb dX5_bar_0 rfl (lv_at hl 0 rfl) ?_
  refine va_get (D := D) (ci := 5) (v := .ref (md 29)) (C := RX5) (T := TX5) (N := 31) hx hb hts inX5 hown hK hP 0 rfl rfl 29 (by decide) f74 (fun _ h9 => h9) rfl dX5_bar_1 ?_
  refine lv_iload_n hx hb dX5_bar_4 rfl (lv_at hl 1 rfl) ?_
  refine jv_iconst hx hb dX5_bar_5 ?_
  refine jv_isub hx hb dX5_bar_6 ?_
  refine lv_iload_n hx hb dX5_bar_7 rfl (lv_at hl 2 rfl) ?_
  refine jv_iconst hx hb dX5_bar_8 ?_
  refine jv_isub hx hb dX5_bar_9 ?_
  refine lv_iload_n hx hb dX5_bar_10 rfl (lv_at hl 3 rfl) ?_
  refine jv_iconst hx hb dX5_bar_11 ?_
  refine jv_iadd hx hb dX5_bar_12 ?_
  refine lv_iload hx hb dX5_bar_13 (lv_at hl 4 rfl) ?_
  refine jv_iconst hx hb dX5_bar_15 ?_
  refine jv_iadd hx hb dX5_bar_16 ?_
  refine jc_Sv (As := [.ref (md 29), .int (jI (x0 - 5)), .int (jI (y0 - 5)), .int (jI (x1 + 2)), .int (jI (y1 + 2))]) (rest := []) (wq := [(hm, .inr (5, [.int (jI co), .int (jI ly), .int (jI nt), .ref (md 3), .int (jI ns), .ref (md 5), .ref (md 6), .ref (md 7), .int (jI nd), .ref (md 9), .ref (md 10), .ref (md 11), .int (jI np), .ref (md 13), .ref (md 14), .ref (md 15), .ref (md 16), .ref (md 17), .ref (md 18), .ref (md 19), .ref (md 20), .int (jI nq), .ref (md 22), .ref (md 23), .ref (md 24), .ref (md 25), .ref (md 26), .int (jI tq), .ref (md 28), .ref (md 29), .ref (md 30)]))]) ⟨hx, hb, hml, hown, hts⟩ (tX5_mark l D g (md 29) mf (x0 - 5) (y0 - 5) (x1 + 2) (y1 + 2) (⟨⟨by omega, by omega⟩, ⟨by omega, by omega⟩, ⟨by omega, by omega⟩, ⟨by omega, by omega⟩⟩)) (va_cwS 5 hts gX5_bar_X5_mark rfl rfl rfl (by decide +kernel) ⟨Nat.le_of_ble_eq_true rfl, Nat.le_of_ble_eq_true rfl⟩) hK hP hD hS hA [1] [0] rfl rfl (by decide) (by decide) (by decide) rfl rfl hl.1 (Nat.le_of_ble_eq_true rfl) dX5_bar_17 ⟨Nat.le_of_ble_eq_true rfl, Nat.le_of_ble_eq_true rfl⟩ (fun u H locs hu hP hD hS => ?_)
  obtain ⟨f1, rfl⟩ : ∃ z9, z9 = u := ⟨_, rfl⟩
  have hu : mkM mf f1 (x0 - 5) (y0 - 5) (x1 + 2) (y1 + 2) := hu
  have hf1 := hu
  have hP : va_P D jcl [(hm, .inr (5, [.int (jI co), .int (jI ly), .int (jI nt), .ref (md 3), .int (jI ns), .ref (md 5), .ref (md 6), .ref (md 7), .int (jI nd), .ref (md 9), .ref (md 10), .ref (md 11), .int (jI np), .ref (md 13), .ref (md 14), .ref (md 15), .ref (md 16), .ref (md 17), .ref (md 18), .ref (md 19), .ref (md 20), .int (jI nq), .ref (md 22), .ref (md 23), .ref (md 24), .ref (md 25), .ref (md 26), .int (jI tq), .ref (md 28), .ref (md 29), .ref (md 30)])), ((md 29), .inl (g.2.1, 16000, .inr (.inl (aW f1))))] H := hP
  have hD : va_D A [(hm, .inr (5, [.int (jI co), .int (jI ly), .int (jI nt), .ref (md 3), .int (jI ns), .ref (md 5), .ref (md 6), .ref (md 7), .int (jI nd), .ref (md 9), .ref (md 10), .ref (md 11), .int (jI np), .ref (md 13), .ref (md 14), .ref (md 15), .ref (md 16), .ref (md 17), .ref (md 18), .ref (md 19), .ref (md 20), .int (jI nq), .ref (md 22), .ref (md 23), .ref (md 24), .ref (md 25), .ref (md 26), .int (jI tq), .ref (md 28), .ref (md 29), .ref (md 30)])), ((md 29), .inl (g.2.1, 16000, .inr (.inl (aW f1))))] := hD
  exact hret  f1 _ _ _ _ (hf1) (hP.sub [0, 1] rfl) (hD.sub [0, 1] (by decide) rfl) hS dX5_bar_20

set_option maxHeartbeats 4000000 in
set_option maxRecDepth 100000 in
/-- findBarred -/
theorem tX5_findBarred (l : Launch) (D : va_G) (g : ClassId × ClassId × ClassId) (hm : Nat) (md : Nat → Nat) (co : Int) (ly : Int) (nt : Int) (ns : Int) (nd : Int) (np : Int) (nq : Int) (tq : Int) (sn : Int → Int) (sl : Int → Int) (bo : Int → Int) (L : List jQ) (qn : Int → Int) (qs : Int → Int) (qx : Int → Int) (qy : Int → Int) (DD : List jD) (rl : Int → Int) (rx : Int → Int) (ry : Int → Int) (rs : Int → Int) (LP : List jQ) (mf : Int → Int64) (hms : msI sn sl bo ns L) (hns : ns ≤ 200) (hmd : mdI qn qs qx qy np DD) (hnp : np ≤ 60) (hmp : mpI rl rx ry rs nq LP) (hnq : nq ≤ 1500) : jMv l D g yX5_findBarred wsX5_findBarred 4 140 [.ref hm] [(hm, .inr (5, [.int (jI co), .int (jI ly), .int (jI nt), .ref (md 3), .int (jI ns), .ref (md 5), .ref (md 6), .ref (md 7), .int (jI nd), .ref (md 9), .ref (md 10), .ref (md 11), .int (jI np), .ref (md 13), .ref (md 14), .ref (md 15), .ref (md 16), .ref (md 17), .ref (md 18), .ref (md 19), .ref (md 20), .int (jI nq), .ref (md 22), .ref (md 23), .ref (md 24), .ref (md 25), .ref (md 26), .int (jI tq), .ref (md 28), .ref (md 29), .ref (md 30)])), ((md 5), .inl (g.1, 200, .inl (aI sn))), ((md 6), .inl (g.1, 200, .inl (aI sl))), ((md 7), .inl (g.1, 800, .inl (aI bo))), ((md 13), .inl (g.1, 60, .inl (aI qn))), ((md 14), .inl (g.1, 60, .inl (aI qs))), ((md 15), .inl (g.1, 60, .inl (aI qx))), ((md 16), .inl (g.1, 60, .inl (aI qy))), ((md 22), .inl (g.1, 1500, .inl (aI rl))), ((md 23), .inl (g.1, 1500, .inl (aI rx))), ((md 24), .inl (g.1, 1500, .inl (aI ry))), ((md 25), .inl (g.1, 1500, .inl (aI rs))), ((md 29), .inl (g.2.1, 16000, .inr (.inl (aW mf))))] (S := (Int → Int64)) (fun u => mkB u (bars L (DD.map fun d => d.1) LP)) (fun u => [(hm, .inr (5, [.int (jI co), .int (jI ly), .int (jI nt), .ref (md 3), .int (jI ns), .ref (md 5), .ref (md 6), .ref (md 7), .int (jI nd), .ref (md 9), .ref (md 10), .ref (md 11), .int (jI np), .ref (md 13), .ref (md 14), .ref (md 15), .ref (md 16), .ref (md 17), .ref (md 18), .ref (md 19), .ref (md 20), .int (jI nq), .ref (md 22), .ref (md 23), .ref (md 24), .ref (md 25), .ref (md 26), .int (jI tq), .ref (md 28), .ref (md 29), .ref (md 30)])), ((md 5), .inl (g.1, 200, .inl (aI sn))), ((md 6), .inl (g.1, 200, .inl (aI sl))), ((md 7), .inl (g.1, 800, .inl (aI bo))), ((md 13), .inl (g.1, 60, .inl (aI qn))), ((md 14), .inl (g.1, 60, .inl (aI qs))), ((md 15), .inl (g.1, 60, .inl (aI qx))), ((md 16), .inl (g.1, 60, .inl (aI qy))), ((md 22), .inl (g.1, 1500, .inl (aI rl))), ((md 23), .inl (g.1, 1500, .inl (aI rx))), ((md 24), .inl (g.1, 1500, .inl (aI ry))), ((md 25), .inl (g.1, 1500, .inl (aI rs))), ((md 29), .inl (g.2.1, 16000, .inr (.inl (aW u))))]) := by
  refine jMv_of (cc := cX5_findBarred) (maxL := 2) (by decide) rfl (Nat.le_of_ble_eq_true rfl) ?_
  intro p e s m args below meth c Q A hx hb hml hts hown hK hA hret ls hl hP hD
  have hS : va_S A s.heap s.heap [] := va_S.rf
  have hown : s.vm.findClass RX5 = some m.cls := hown
  have f17 := hts (.fieldLink RX5 17 "AntennaFillModel" "shapeLayer" "[I") (by decide +kernel)
  have f20 := hts (.fieldLink RX5 20 "AntennaFillModel" "box" "[I") (by decide +kernel)
  have f38 := hts (.fieldLink RX5 38 "AntennaFillModel" "placedX" "[I") (by decide +kernel)
  have f41 := hts (.fieldLink RX5 41 "AntennaFillModel" "placedY" "[I") (by decide +kernel)
  have f56 := hts (.fieldLink RX5 56 "AntennaFillModel" "pieceLayer" "[I") (by decide +kernel)
  have f59 := hts (.fieldLink RX5 59 "AntennaFillModel" "pieceX" "[I") (by decide +kernel)
  have f62 := hts (.fieldLink RX5 62 "AntennaFillModel" "pieceY" "[I") (by decide +kernel)
  have f65 := hts (.fieldLink RX5 65 "AntennaFillModel" "pieceSize" "[I") (by decide +kernel)
  have f74 := hts (.fieldLink RX5 74 "AntennaFillModel" "marks" "[J") (by decide +kernel)
  have f102 := hts (.fieldLink RX5 102 "AntennaFillModel" "shapes" "I") (by decide +kernel)
  have f139 := hts (.fieldLink RX5 139 "AntennaFillModel" "placed" "I") (by decide +kernel)
  have f165 := hts (.fieldLink RX5 165 "AntennaFillModel" "pieces" "I") (by decide +kernel)
  have inX5 : ∀ w ∈ wsX50, w ∈ wsX5_findBarred := by decide +kernel
  have hl : lv_has ls 2 [(0, .ref hm)] := hl
  have hlen := hms.1
  have hlen2 := hmd.1
  have hlen3 := hmp.1
  refine lv_aload_n hx hb dX5_findBarred_0 rfl (lv_at hl 0 rfl) ?_
  refine va_get (D := D) (ci := 5) (v := .ref (md 29)) (C := RX5) (T := TX5) (N := 31) hx hb hts inX5 hown hK hP 0 rfl rfl 29 (by decide) f74 (fun _ h9 => h9) rfl dX5_findBarred_1 ?_
  refine jc_Sv (As := [.ref (md 29)]) (rest := []) (wq := [(hm, .inr (5, [.int (jI co), .int (jI ly), .int (jI nt), .ref (md 3), .int (jI ns), .ref (md 5), .ref (md 6), .ref (md 7), .int (jI nd), .ref (md 9), .ref (md 10), .ref (md 11), .int (jI np), .ref (md 13), .ref (md 14), .ref (md 15), .ref (md 16), .ref (md 17), .ref (md 18), .ref (md 19), .ref (md 20), .int (jI nq), .ref (md 22), .ref (md 23), .ref (md 24), .ref (md 25), .ref (md 26), .int (jI tq), .ref (md 28), .ref (md 29), .ref (md 30)])), ((md 5), .inl (g.1, 200, .inl (aI sn))), ((md 6), .inl (g.1, 200, .inl (aI sl))), ((md 7), .inl (g.1, 800, .inl (aI bo))), ((md 13), .inl (g.1, 60, .inl (aI qn))), ((md 14), .inl (g.1, 60, .inl (aI qs))), ((md 15), .inl (g.1, 60, .inl (aI qx))), ((md 16), .inl (g.1, 60, .inl (aI qy))), ((md 22), .inl (g.1, 1500, .inl (aI rl))), ((md 23), .inl (g.1, 1500, .inl (aI rx))), ((md 24), .inl (g.1, 1500, .inl (aI ry))), ((md 25), .inl (g.1, 1500, .inl (aI rs)))]) ⟨hx, hb, hml, hown, hts⟩ (tX5_clear l D g (md 29) mf ) (va_cwS 1 hts gX5_findBarred_X5_clear rfl rfl rfl (by decide +kernel) ⟨Nat.le_of_ble_eq_true rfl, Nat.le_of_ble_eq_true rfl⟩) hK hP hD hS hA [12] [0, 1, 2, 3, 4, 5, 6, 7, 8, 9, 10, 11] rfl rfl (by decide) (by decide) (by decide) rfl rfl hl.1 (Nat.le_of_ble_eq_true rfl) dX5_findBarred_4 ⟨Nat.le_of_ble_eq_true rfl, Nat.le_of_ble_eq_true rfl⟩ (fun u H locs hu hP hD hS => ?_)
  obtain ⟨f0, rfl⟩ : ∃ z9, z9 = u := ⟨_, rfl⟩
  have hu : mk0 f0 := hu
  have hcl := hu
  have hP : va_P D jcl [(hm, .inr (5, [.int (jI co), .int (jI ly), .int (jI nt), .ref (md 3), .int (jI ns), .ref (md 5), .ref (md 6), .ref (md 7), .int (jI nd), .ref (md 9), .ref (md 10), .ref (md 11), .int (jI np), .ref (md 13), .ref (md 14), .ref (md 15), .ref (md 16), .ref (md 17), .ref (md 18), .ref (md 19), .ref (md 20), .int (jI nq), .ref (md 22), .ref (md 23), .ref (md 24), .ref (md 25), .ref (md 26), .int (jI tq), .ref (md 28), .ref (md 29), .ref (md 30)])), ((md 5), .inl (g.1, 200, .inl (aI sn))), ((md 6), .inl (g.1, 200, .inl (aI sl))), ((md 7), .inl (g.1, 800, .inl (aI bo))), ((md 13), .inl (g.1, 60, .inl (aI qn))), ((md 14), .inl (g.1, 60, .inl (aI qs))), ((md 15), .inl (g.1, 60, .inl (aI qx))), ((md 16), .inl (g.1, 60, .inl (aI qy))), ((md 22), .inl (g.1, 1500, .inl (aI rl))), ((md 23), .inl (g.1, 1500, .inl (aI rx))), ((md 24), .inl (g.1, 1500, .inl (aI ry))), ((md 25), .inl (g.1, 1500, .inl (aI rs))), ((md 29), .inl (g.2.1, 16000, .inr (.inl (aW f0))))] H := hP
  have hD : va_D A [(hm, .inr (5, [.int (jI co), .int (jI ly), .int (jI nt), .ref (md 3), .int (jI ns), .ref (md 5), .ref (md 6), .ref (md 7), .int (jI nd), .ref (md 9), .ref (md 10), .ref (md 11), .int (jI np), .ref (md 13), .ref (md 14), .ref (md 15), .ref (md 16), .ref (md 17), .ref (md 18), .ref (md 19), .ref (md 20), .int (jI nq), .ref (md 22), .ref (md 23), .ref (md 24), .ref (md 25), .ref (md 26), .int (jI tq), .ref (md 28), .ref (md 29), .ref (md 30)])), ((md 5), .inl (g.1, 200, .inl (aI sn))), ((md 6), .inl (g.1, 200, .inl (aI sl))), ((md 7), .inl (g.1, 800, .inl (aI bo))), ((md 13), .inl (g.1, 60, .inl (aI qn))), ((md 14), .inl (g.1, 60, .inl (aI qs))), ((md 15), .inl (g.1, 60, .inl (aI qx))), ((md 16), .inl (g.1, 60, .inl (aI qy))), ((md 22), .inl (g.1, 1500, .inl (aI rl))), ((md 23), .inl (g.1, 1500, .inl (aI rx))), ((md 24), .inl (g.1, 1500, .inl (aI ry))), ((md 25), .inl (g.1, 1500, .inl (aI rs))), ((md 29), .inl (g.2.1, 16000, .inr (.inl (aW f0))))] := hD
  refine lv_aload_n hx hb dX5_findBarred_7 rfl (lv_at hl 0 rfl) ?_
  refine va_get (D := D) (ci := 5) (v := .ref (md 29)) (C := RX5) (T := TX5) (N := 31) hx hb hts inX5 hown hK hP 0 rfl rfl 29 (by decide) f74 (fun _ h9 => h9) rfl dX5_findBarred_8 ?_
  refine jv_iconst hx hb dX5_findBarred_11 ?_
  refine jv_iconst hx hb dX5_findBarred_12 ?_
  refine jv_iconst hx hb dX5_findBarred_13 ?_
  refine jv_sipush hx hb (by decide) dX5_findBarred_14 ?_
  refine jc_Sv (As := [.ref (md 29), .int (jI 0), .int (jI 0), .int (jI 2), .int (jI 1000)]) (rest := []) (wq := [(hm, .inr (5, [.int (jI co), .int (jI ly), .int (jI nt), .ref (md 3), .int (jI ns), .ref (md 5), .ref (md 6), .ref (md 7), .int (jI nd), .ref (md 9), .ref (md 10), .ref (md 11), .int (jI np), .ref (md 13), .ref (md 14), .ref (md 15), .ref (md 16), .ref (md 17), .ref (md 18), .ref (md 19), .ref (md 20), .int (jI nq), .ref (md 22), .ref (md 23), .ref (md 24), .ref (md 25), .ref (md 26), .int (jI tq), .ref (md 28), .ref (md 29), .ref (md 30)])), ((md 5), .inl (g.1, 200, .inl (aI sn))), ((md 6), .inl (g.1, 200, .inl (aI sl))), ((md 7), .inl (g.1, 800, .inl (aI bo))), ((md 13), .inl (g.1, 60, .inl (aI qn))), ((md 14), .inl (g.1, 60, .inl (aI qs))), ((md 15), .inl (g.1, 60, .inl (aI qx))), ((md 16), .inl (g.1, 60, .inl (aI qy))), ((md 22), .inl (g.1, 1500, .inl (aI rl))), ((md 23), .inl (g.1, 1500, .inl (aI rx))), ((md 24), .inl (g.1, 1500, .inl (aI ry))), ((md 25), .inl (g.1, 1500, .inl (aI rs)))]) ⟨hx, hb, hml, hown, hts⟩ (tX5_mark l D g (md 29) f0 0 0 2 1000 (⟨⟨by omega, by omega⟩, ⟨by omega, by omega⟩, ⟨by omega, by omega⟩, ⟨by omega, by omega⟩⟩)) (va_cwS 5 hts gX5_findBarred_X5_mark rfl rfl rfl (by decide +kernel) ⟨Nat.le_of_ble_eq_true rfl, Nat.le_of_ble_eq_true rfl⟩) hK hP hD hS hA [12] [0, 1, 2, 3, 4, 5, 6, 7, 8, 9, 10, 11] rfl rfl (by decide) (by decide) (by decide) rfl rfl hl.1 (Nat.le_of_ble_eq_true rfl) dX5_findBarred_17 ⟨Nat.le_of_ble_eq_true rfl, Nat.le_of_ble_eq_true rfl⟩ (fun u H locs hu hP hD hS => ?_)
  obtain ⟨f1, rfl⟩ : ∃ z9, z9 = u := ⟨_, rfl⟩
  have hu : mkM f0 f1 0 0 2 1000 := hu
  have hf1 := hu
  have hP : va_P D jcl [(hm, .inr (5, [.int (jI co), .int (jI ly), .int (jI nt), .ref (md 3), .int (jI ns), .ref (md 5), .ref (md 6), .ref (md 7), .int (jI nd), .ref (md 9), .ref (md 10), .ref (md 11), .int (jI np), .ref (md 13), .ref (md 14), .ref (md 15), .ref (md 16), .ref (md 17), .ref (md 18), .ref (md 19), .ref (md 20), .int (jI nq), .ref (md 22), .ref (md 23), .ref (md 24), .ref (md 25), .ref (md 26), .int (jI tq), .ref (md 28), .ref (md 29), .ref (md 30)])), ((md 5), .inl (g.1, 200, .inl (aI sn))), ((md 6), .inl (g.1, 200, .inl (aI sl))), ((md 7), .inl (g.1, 800, .inl (aI bo))), ((md 13), .inl (g.1, 60, .inl (aI qn))), ((md 14), .inl (g.1, 60, .inl (aI qs))), ((md 15), .inl (g.1, 60, .inl (aI qx))), ((md 16), .inl (g.1, 60, .inl (aI qy))), ((md 22), .inl (g.1, 1500, .inl (aI rl))), ((md 23), .inl (g.1, 1500, .inl (aI rx))), ((md 24), .inl (g.1, 1500, .inl (aI ry))), ((md 25), .inl (g.1, 1500, .inl (aI rs))), ((md 29), .inl (g.2.1, 16000, .inr (.inl (aW f1))))] H := hP
  have hD : va_D A [(hm, .inr (5, [.int (jI co), .int (jI ly), .int (jI nt), .ref (md 3), .int (jI ns), .ref (md 5), .ref (md 6), .ref (md 7), .int (jI nd), .ref (md 9), .ref (md 10), .ref (md 11), .int (jI np), .ref (md 13), .ref (md 14), .ref (md 15), .ref (md 16), .ref (md 17), .ref (md 18), .ref (md 19), .ref (md 20), .int (jI nq), .ref (md 22), .ref (md 23), .ref (md 24), .ref (md 25), .ref (md 26), .int (jI tq), .ref (md 28), .ref (md 29), .ref (md 30)])), ((md 5), .inl (g.1, 200, .inl (aI sn))), ((md 6), .inl (g.1, 200, .inl (aI sl))), ((md 7), .inl (g.1, 800, .inl (aI bo))), ((md 13), .inl (g.1, 60, .inl (aI qn))), ((md 14), .inl (g.1, 60, .inl (aI qs))), ((md 15), .inl (g.1, 60, .inl (aI qx))), ((md 16), .inl (g.1, 60, .inl (aI qy))), ((md 22), .inl (g.1, 1500, .inl (aI rl))), ((md 23), .inl (g.1, 1500, .inl (aI rx))), ((md 24), .inl (g.1, 1500, .inl (aI ry))), ((md 25), .inl (g.1, 1500, .inl (aI rs))), ((md 29), .inl (g.2.1, 16000, .inr (.inl (aW f1))))] := hD
  refine lv_aload_n hx hb dX5_findBarred_20 rfl (lv_at hl 0 rfl) ?_
  refine va_get (D := D) (ci := 5) (v := .ref (md 29)) (C := RX5) (T := TX5) (N := 31) hx hb hts inX5 hown hK hP 0 rfl rfl 29 (by decide) f74 (fun _ h9 => h9) rfl dX5_findBarred_21 ?_
  refine jv_sipush hx hb (by decide) dX5_findBarred_24 ?_
  refine jv_iconst hx hb dX5_findBarred_27 ?_
  refine jv_sipush hx hb (by decide) dX5_findBarred_28 ?_
  refine jv_sipush hx hb (by decide) dX5_findBarred_31 ?_
  refine jc_Sv (As := [.ref (md 29), .int (jI 995), .int (jI 0), .int (jI 1000), .int (jI 1000)]) (rest := []) (wq := [(hm, .inr (5, [.int (jI co), .int (jI ly), .int (jI nt), .ref (md 3), .int (jI ns), .ref (md 5), .ref (md 6), .ref (md 7), .int (jI nd), .ref (md 9), .ref (md 10), .ref (md 11), .int (jI np), .ref (md 13), .ref (md 14), .ref (md 15), .ref (md 16), .ref (md 17), .ref (md 18), .ref (md 19), .ref (md 20), .int (jI nq), .ref (md 22), .ref (md 23), .ref (md 24), .ref (md 25), .ref (md 26), .int (jI tq), .ref (md 28), .ref (md 29), .ref (md 30)])), ((md 5), .inl (g.1, 200, .inl (aI sn))), ((md 6), .inl (g.1, 200, .inl (aI sl))), ((md 7), .inl (g.1, 800, .inl (aI bo))), ((md 13), .inl (g.1, 60, .inl (aI qn))), ((md 14), .inl (g.1, 60, .inl (aI qs))), ((md 15), .inl (g.1, 60, .inl (aI qx))), ((md 16), .inl (g.1, 60, .inl (aI qy))), ((md 22), .inl (g.1, 1500, .inl (aI rl))), ((md 23), .inl (g.1, 1500, .inl (aI rx))), ((md 24), .inl (g.1, 1500, .inl (aI ry))), ((md 25), .inl (g.1, 1500, .inl (aI rs)))]) ⟨hx, hb, hml, hown, hts⟩ (tX5_mark l D g (md 29) f1 995 0 1000 1000 (⟨⟨by omega, by omega⟩, ⟨by omega, by omega⟩, ⟨by omega, by omega⟩, ⟨by omega, by omega⟩⟩)) (va_cwS 5 hts gX5_findBarred_X5_mark rfl rfl rfl (by decide +kernel) ⟨Nat.le_of_ble_eq_true rfl, Nat.le_of_ble_eq_true rfl⟩) hK hP hD hS hA [12] [0, 1, 2, 3, 4, 5, 6, 7, 8, 9, 10, 11] rfl rfl (by decide) (by decide) (by decide) rfl rfl hl.1 (Nat.le_of_ble_eq_true rfl) dX5_findBarred_34 ⟨Nat.le_of_ble_eq_true rfl, Nat.le_of_ble_eq_true rfl⟩ (fun u H locs hu hP hD hS => ?_)
  obtain ⟨f2, rfl⟩ : ∃ z9, z9 = u := ⟨_, rfl⟩
  have hu : mkM f1 f2 995 0 1000 1000 := hu
  have hf2 := hu
  have hP : va_P D jcl [(hm, .inr (5, [.int (jI co), .int (jI ly), .int (jI nt), .ref (md 3), .int (jI ns), .ref (md 5), .ref (md 6), .ref (md 7), .int (jI nd), .ref (md 9), .ref (md 10), .ref (md 11), .int (jI np), .ref (md 13), .ref (md 14), .ref (md 15), .ref (md 16), .ref (md 17), .ref (md 18), .ref (md 19), .ref (md 20), .int (jI nq), .ref (md 22), .ref (md 23), .ref (md 24), .ref (md 25), .ref (md 26), .int (jI tq), .ref (md 28), .ref (md 29), .ref (md 30)])), ((md 5), .inl (g.1, 200, .inl (aI sn))), ((md 6), .inl (g.1, 200, .inl (aI sl))), ((md 7), .inl (g.1, 800, .inl (aI bo))), ((md 13), .inl (g.1, 60, .inl (aI qn))), ((md 14), .inl (g.1, 60, .inl (aI qs))), ((md 15), .inl (g.1, 60, .inl (aI qx))), ((md 16), .inl (g.1, 60, .inl (aI qy))), ((md 22), .inl (g.1, 1500, .inl (aI rl))), ((md 23), .inl (g.1, 1500, .inl (aI rx))), ((md 24), .inl (g.1, 1500, .inl (aI ry))), ((md 25), .inl (g.1, 1500, .inl (aI rs))), ((md 29), .inl (g.2.1, 16000, .inr (.inl (aW f2))))] H := hP
  have hD : va_D A [(hm, .inr (5, [.int (jI co), .int (jI ly), .int (jI nt), .ref (md 3), .int (jI ns), .ref (md 5), .ref (md 6), .ref (md 7), .int (jI nd), .ref (md 9), .ref (md 10), .ref (md 11), .int (jI np), .ref (md 13), .ref (md 14), .ref (md 15), .ref (md 16), .ref (md 17), .ref (md 18), .ref (md 19), .ref (md 20), .int (jI nq), .ref (md 22), .ref (md 23), .ref (md 24), .ref (md 25), .ref (md 26), .int (jI tq), .ref (md 28), .ref (md 29), .ref (md 30)])), ((md 5), .inl (g.1, 200, .inl (aI sn))), ((md 6), .inl (g.1, 200, .inl (aI sl))), ((md 7), .inl (g.1, 800, .inl (aI bo))), ((md 13), .inl (g.1, 60, .inl (aI qn))), ((md 14), .inl (g.1, 60, .inl (aI qs))), ((md 15), .inl (g.1, 60, .inl (aI qx))), ((md 16), .inl (g.1, 60, .inl (aI qy))), ((md 22), .inl (g.1, 1500, .inl (aI rl))), ((md 23), .inl (g.1, 1500, .inl (aI rx))), ((md 24), .inl (g.1, 1500, .inl (aI ry))), ((md 25), .inl (g.1, 1500, .inl (aI rs))), ((md 29), .inl (g.2.1, 16000, .inr (.inl (aW f2))))] := hD
  refine lv_aload_n hx hb dX5_findBarred_37 rfl (lv_at hl 0 rfl) ?_
  refine va_get (D := D) (ci := 5) (v := .ref (md 29)) (C := RX5) (T := TX5) (N := 31) hx hb hts inX5 hown hK hP 0 rfl rfl 29 (by decide) f74 (fun _ h9 => h9) rfl dX5_findBarred_38 ?_
  refine jv_iconst hx hb dX5_findBarred_41 ?_
  refine jv_iconst hx hb dX5_findBarred_42 ?_
  refine jv_sipush hx hb (by decide) dX5_findBarred_43 ?_
  refine jv_iconst hx hb dX5_findBarred_46 ?_
  refine jc_Sv (As := [.ref (md 29), .int (jI 0), .int (jI 0), .int (jI 1000), .int (jI 2)]) (rest := []) (wq := [(hm, .inr (5, [.int (jI co), .int (jI ly), .int (jI nt), .ref (md 3), .int (jI ns), .ref (md 5), .ref (md 6), .ref (md 7), .int (jI nd), .ref (md 9), .ref (md 10), .ref (md 11), .int (jI np), .ref (md 13), .ref (md 14), .ref (md 15), .ref (md 16), .ref (md 17), .ref (md 18), .ref (md 19), .ref (md 20), .int (jI nq), .ref (md 22), .ref (md 23), .ref (md 24), .ref (md 25), .ref (md 26), .int (jI tq), .ref (md 28), .ref (md 29), .ref (md 30)])), ((md 5), .inl (g.1, 200, .inl (aI sn))), ((md 6), .inl (g.1, 200, .inl (aI sl))), ((md 7), .inl (g.1, 800, .inl (aI bo))), ((md 13), .inl (g.1, 60, .inl (aI qn))), ((md 14), .inl (g.1, 60, .inl (aI qs))), ((md 15), .inl (g.1, 60, .inl (aI qx))), ((md 16), .inl (g.1, 60, .inl (aI qy))), ((md 22), .inl (g.1, 1500, .inl (aI rl))), ((md 23), .inl (g.1, 1500, .inl (aI rx))), ((md 24), .inl (g.1, 1500, .inl (aI ry))), ((md 25), .inl (g.1, 1500, .inl (aI rs)))]) ⟨hx, hb, hml, hown, hts⟩ (tX5_mark l D g (md 29) f2 0 0 1000 2 (⟨⟨by omega, by omega⟩, ⟨by omega, by omega⟩, ⟨by omega, by omega⟩, ⟨by omega, by omega⟩⟩)) (va_cwS 5 hts gX5_findBarred_X5_mark rfl rfl rfl (by decide +kernel) ⟨Nat.le_of_ble_eq_true rfl, Nat.le_of_ble_eq_true rfl⟩) hK hP hD hS hA [12] [0, 1, 2, 3, 4, 5, 6, 7, 8, 9, 10, 11] rfl rfl (by decide) (by decide) (by decide) rfl rfl hl.1 (Nat.le_of_ble_eq_true rfl) dX5_findBarred_47 ⟨Nat.le_of_ble_eq_true rfl, Nat.le_of_ble_eq_true rfl⟩ (fun u H locs hu hP hD hS => ?_)
  obtain ⟨f3, rfl⟩ : ∃ z9, z9 = u := ⟨_, rfl⟩
  have hu : mkM f2 f3 0 0 1000 2 := hu
  have hf3 := hu
  have hP : va_P D jcl [(hm, .inr (5, [.int (jI co), .int (jI ly), .int (jI nt), .ref (md 3), .int (jI ns), .ref (md 5), .ref (md 6), .ref (md 7), .int (jI nd), .ref (md 9), .ref (md 10), .ref (md 11), .int (jI np), .ref (md 13), .ref (md 14), .ref (md 15), .ref (md 16), .ref (md 17), .ref (md 18), .ref (md 19), .ref (md 20), .int (jI nq), .ref (md 22), .ref (md 23), .ref (md 24), .ref (md 25), .ref (md 26), .int (jI tq), .ref (md 28), .ref (md 29), .ref (md 30)])), ((md 5), .inl (g.1, 200, .inl (aI sn))), ((md 6), .inl (g.1, 200, .inl (aI sl))), ((md 7), .inl (g.1, 800, .inl (aI bo))), ((md 13), .inl (g.1, 60, .inl (aI qn))), ((md 14), .inl (g.1, 60, .inl (aI qs))), ((md 15), .inl (g.1, 60, .inl (aI qx))), ((md 16), .inl (g.1, 60, .inl (aI qy))), ((md 22), .inl (g.1, 1500, .inl (aI rl))), ((md 23), .inl (g.1, 1500, .inl (aI rx))), ((md 24), .inl (g.1, 1500, .inl (aI ry))), ((md 25), .inl (g.1, 1500, .inl (aI rs))), ((md 29), .inl (g.2.1, 16000, .inr (.inl (aW f3))))] H := hP
  have hD : va_D A [(hm, .inr (5, [.int (jI co), .int (jI ly), .int (jI nt), .ref (md 3), .int (jI ns), .ref (md 5), .ref (md 6), .ref (md 7), .int (jI nd), .ref (md 9), .ref (md 10), .ref (md 11), .int (jI np), .ref (md 13), .ref (md 14), .ref (md 15), .ref (md 16), .ref (md 17), .ref (md 18), .ref (md 19), .ref (md 20), .int (jI nq), .ref (md 22), .ref (md 23), .ref (md 24), .ref (md 25), .ref (md 26), .int (jI tq), .ref (md 28), .ref (md 29), .ref (md 30)])), ((md 5), .inl (g.1, 200, .inl (aI sn))), ((md 6), .inl (g.1, 200, .inl (aI sl))), ((md 7), .inl (g.1, 800, .inl (aI bo))), ((md 13), .inl (g.1, 60, .inl (aI qn))), ((md 14), .inl (g.1, 60, .inl (aI qs))), ((md 15), .inl (g.1, 60, .inl (aI qx))), ((md 16), .inl (g.1, 60, .inl (aI qy))), ((md 22), .inl (g.1, 1500, .inl (aI rl))), ((md 23), .inl (g.1, 1500, .inl (aI rx))), ((md 24), .inl (g.1, 1500, .inl (aI ry))), ((md 25), .inl (g.1, 1500, .inl (aI rs))), ((md 29), .inl (g.2.1, 16000, .inr (.inl (aW f3))))] := hD
  refine lv_aload_n hx hb dX5_findBarred_50 rfl (lv_at hl 0 rfl) ?_
  refine va_get (D := D) (ci := 5) (v := .ref (md 29)) (C := RX5) (T := TX5) (N := 31) hx hb hts inX5 hown hK hP 0 rfl rfl 29 (by decide) f74 (fun _ h9 => h9) rfl dX5_findBarred_51 ?_
  refine jv_iconst hx hb dX5_findBarred_54 ?_
  refine jv_sipush hx hb (by decide) dX5_findBarred_55 ?_
  refine jv_sipush hx hb (by decide) dX5_findBarred_58 ?_
  refine jv_sipush hx hb (by decide) dX5_findBarred_61 ?_
  refine jc_Sv (As := [.ref (md 29), .int (jI 0), .int (jI 995), .int (jI 1000), .int (jI 1000)]) (rest := []) (wq := [(hm, .inr (5, [.int (jI co), .int (jI ly), .int (jI nt), .ref (md 3), .int (jI ns), .ref (md 5), .ref (md 6), .ref (md 7), .int (jI nd), .ref (md 9), .ref (md 10), .ref (md 11), .int (jI np), .ref (md 13), .ref (md 14), .ref (md 15), .ref (md 16), .ref (md 17), .ref (md 18), .ref (md 19), .ref (md 20), .int (jI nq), .ref (md 22), .ref (md 23), .ref (md 24), .ref (md 25), .ref (md 26), .int (jI tq), .ref (md 28), .ref (md 29), .ref (md 30)])), ((md 5), .inl (g.1, 200, .inl (aI sn))), ((md 6), .inl (g.1, 200, .inl (aI sl))), ((md 7), .inl (g.1, 800, .inl (aI bo))), ((md 13), .inl (g.1, 60, .inl (aI qn))), ((md 14), .inl (g.1, 60, .inl (aI qs))), ((md 15), .inl (g.1, 60, .inl (aI qx))), ((md 16), .inl (g.1, 60, .inl (aI qy))), ((md 22), .inl (g.1, 1500, .inl (aI rl))), ((md 23), .inl (g.1, 1500, .inl (aI rx))), ((md 24), .inl (g.1, 1500, .inl (aI ry))), ((md 25), .inl (g.1, 1500, .inl (aI rs)))]) ⟨hx, hb, hml, hown, hts⟩ (tX5_mark l D g (md 29) f3 0 995 1000 1000 (⟨⟨by omega, by omega⟩, ⟨by omega, by omega⟩, ⟨by omega, by omega⟩, ⟨by omega, by omega⟩⟩)) (va_cwS 5 hts gX5_findBarred_X5_mark rfl rfl rfl (by decide +kernel) ⟨Nat.le_of_ble_eq_true rfl, Nat.le_of_ble_eq_true rfl⟩) hK hP hD hS hA [12] [0, 1, 2, 3, 4, 5, 6, 7, 8, 9, 10, 11] rfl rfl (by decide) (by decide) (by decide) rfl rfl hl.1 (Nat.le_of_ble_eq_true rfl) dX5_findBarred_64 ⟨Nat.le_of_ble_eq_true rfl, Nat.le_of_ble_eq_true rfl⟩ (fun u H locs hu hP hD hS => ?_)
  obtain ⟨f4, rfl⟩ : ∃ z9, z9 = u := ⟨_, rfl⟩
  have hu : mkM f3 f4 0 995 1000 1000 := hu
  have hf4 := hu
  have hP : va_P D jcl [(hm, .inr (5, [.int (jI co), .int (jI ly), .int (jI nt), .ref (md 3), .int (jI ns), .ref (md 5), .ref (md 6), .ref (md 7), .int (jI nd), .ref (md 9), .ref (md 10), .ref (md 11), .int (jI np), .ref (md 13), .ref (md 14), .ref (md 15), .ref (md 16), .ref (md 17), .ref (md 18), .ref (md 19), .ref (md 20), .int (jI nq), .ref (md 22), .ref (md 23), .ref (md 24), .ref (md 25), .ref (md 26), .int (jI tq), .ref (md 28), .ref (md 29), .ref (md 30)])), ((md 5), .inl (g.1, 200, .inl (aI sn))), ((md 6), .inl (g.1, 200, .inl (aI sl))), ((md 7), .inl (g.1, 800, .inl (aI bo))), ((md 13), .inl (g.1, 60, .inl (aI qn))), ((md 14), .inl (g.1, 60, .inl (aI qs))), ((md 15), .inl (g.1, 60, .inl (aI qx))), ((md 16), .inl (g.1, 60, .inl (aI qy))), ((md 22), .inl (g.1, 1500, .inl (aI rl))), ((md 23), .inl (g.1, 1500, .inl (aI rx))), ((md 24), .inl (g.1, 1500, .inl (aI ry))), ((md 25), .inl (g.1, 1500, .inl (aI rs))), ((md 29), .inl (g.2.1, 16000, .inr (.inl (aW f4))))] H := hP
  have hD : va_D A [(hm, .inr (5, [.int (jI co), .int (jI ly), .int (jI nt), .ref (md 3), .int (jI ns), .ref (md 5), .ref (md 6), .ref (md 7), .int (jI nd), .ref (md 9), .ref (md 10), .ref (md 11), .int (jI np), .ref (md 13), .ref (md 14), .ref (md 15), .ref (md 16), .ref (md 17), .ref (md 18), .ref (md 19), .ref (md 20), .int (jI nq), .ref (md 22), .ref (md 23), .ref (md 24), .ref (md 25), .ref (md 26), .int (jI tq), .ref (md 28), .ref (md 29), .ref (md 30)])), ((md 5), .inl (g.1, 200, .inl (aI sn))), ((md 6), .inl (g.1, 200, .inl (aI sl))), ((md 7), .inl (g.1, 800, .inl (aI bo))), ((md 13), .inl (g.1, 60, .inl (aI qn))), ((md 14), .inl (g.1, 60, .inl (aI qs))), ((md 15), .inl (g.1, 60, .inl (aI qx))), ((md 16), .inl (g.1, 60, .inl (aI qy))), ((md 22), .inl (g.1, 1500, .inl (aI rl))), ((md 23), .inl (g.1, 1500, .inl (aI rx))), ((md 24), .inl (g.1, 1500, .inl (aI ry))), ((md 25), .inl (g.1, 1500, .inl (aI rs))), ((md 29), .inl (g.2.1, 16000, .inr (.inl (aW f4))))] := hD
  have L184 : ∀ (fuel : Nat) (i : Int) (mf' : Int → Int64), (0 ≤ i ∧ i ≤ nq) → (mkB mf' (L.filter (onL 0) ++ (DD.map fun d => d.1).filter (onL 0) ++ (pre LP i).filter (onL 0))) → (nq - i < (fuel : Int)) → ∀ (H : Heap) (locs : List Loc) (ls : Array Slot), va_P D jcl [(hm, .inr (5, [.int (jI co), .int (jI ly), .int (jI nt), .ref (md 3), .int (jI ns), .ref (md 5), .ref (md 6), .ref (md 7), .int (jI nd), .ref (md 9), .ref (md 10), .ref (md 11), .int (jI np), .ref (md 13), .ref (md 14), .ref (md 15), .ref (md 16), .ref (md 17), .ref (md 18), .ref (md 19), .ref (md 20), .int (jI nq), .ref (md 22), .ref (md 23), .ref (md 24), .ref (md 25), .ref (md 26), .int (jI tq), .ref (md 28), .ref (md 29), .ref (md 30)])), ((md 5), .inl (g.1, 200, .inl (aI sn))), ((md 6), .inl (g.1, 200, .inl (aI sl))), ((md 7), .inl (g.1, 800, .inl (aI bo))), ((md 13), .inl (g.1, 60, .inl (aI qn))), ((md 14), .inl (g.1, 60, .inl (aI qs))), ((md 15), .inl (g.1, 60, .inl (aI qx))), ((md 16), .inl (g.1, 60, .inl (aI qy))), ((md 22), .inl (g.1, 1500, .inl (aI rl))), ((md 23), .inl (g.1, 1500, .inl (aI rx))), ((md 24), .inl (g.1, 1500, .inl (aI ry))), ((md 25), .inl (g.1, 1500, .inl (aI rs))), ((md 29), .inl (g.2.1, 16000, .inr (.inl (aW mf'))))] H → va_D A [(hm, .inr (5, [.int (jI co), .int (jI ly), .int (jI nt), .ref (md 3), .int (jI ns), .ref (md 5), .ref (md 6), .ref (md 7), .int (jI nd), .ref (md 9), .ref (md 10), .ref (md 11), .int (jI np), .ref (md 13), .ref (md 14), .ref (md 15), .ref (md 16), .ref (md 17), .ref (md 18), .ref (md 19), .ref (md 20), .int (jI nq), .ref (md 22), .ref (md 23), .ref (md 24), .ref (md 25), .ref (md 26), .int (jI tq), .ref (md 28), .ref (md 29), .ref (md 30)])), ((md 5), .inl (g.1, 200, .inl (aI sn))), ((md 6), .inl (g.1, 200, .inl (aI sl))), ((md 7), .inl (g.1, 800, .inl (aI bo))), ((md 13), .inl (g.1, 60, .inl (aI qn))), ((md 14), .inl (g.1, 60, .inl (aI qs))), ((md 15), .inl (g.1, 60, .inl (aI qx))), ((md 16), .inl (g.1, 60, .inl (aI qy))), ((md 22), .inl (g.1, 1500, .inl (aI rl))), ((md 23), .inl (g.1, 1500, .inl (aI rx))), ((md 24), .inl (g.1, 1500, .inl (aI ry))), ((md 25), .inl (g.1, 1500, .inl (aI rs))), ((md 29), .inl (g.2.1, 16000, .inr (.inl (aW mf'))))] → va_S A s.heap H locs → lv_has ls 2 [(0, .ref hm), (1, .int (jI i))] → W p l e (jR 4 140) s m args below meth c H locs 0 0 Q (F0 m 184 ls []) := by
    intro fuel
    induction fuel with
    | zero =>
      intro i mf' hi h1 hfu
      exfalso; omega
    | succ fuel ihL184 =>
      intro i mf' hi h1 hfu H locs ls hP hD hS hl
      refine lv_iload_n hx hb dX5_findBarred_184 rfl (lv_at hl 1 rfl) ?_
      refine lv_aload_n hx hb dX5_findBarred_185 rfl (lv_at hl 0 rfl) ?_
      refine va_get (D := D) (ci := 5) (v := .int (jI nq)) (C := RX5) (T := TX5) (N := 31) hx hb hts inX5 hown hK hP 0 rfl rfl 21 (by decide) f165 (fun _ h9 => h9) rfl dX5_findBarred_186 ?_
      refine jv_icmp_ge (tgt := 249) hx hb ⟨by omega, by omega⟩ ⟨by omega, by omega⟩ dX5_findBarred_189 (by decide) (fun c189 => ?_) (fun c189 => ?_)
      · skip
        exact hret  mf' _ _ _ _ (by
          unfold bars
          rw [← pre_all (L := LP) (i := i) (by omega)]
          exact h1) (hP.sub [0, 1, 2, 3, 4, 5, 6, 7, 8, 9, 10, 11, 12] rfl) (hD.sub [0, 1, 2, 3, 4, 5, 6, 7, 8, 9, 10, 11, 12] (by decide) rfl) hS dX5_findBarred_249
      · skip
        obtain ⟨q, hq, e1, e2, e3, e4, e5, hok⟩ := mp_at hmp (k := i) ⟨hi.1, by omega⟩
        have hok2 := hok
        unfold okQ at hok
        refine lv_aload_n hx hb dX5_findBarred_192 rfl (lv_at hl 0 rfl) ?_
        refine va_get (D := D) (ci := 5) (v := .ref (md 22)) (C := RX5) (T := TX5) (N := 31) hx hb hts inX5 hown hK hP 0 rfl rfl 22 (by decide) f56 (fun _ h9 => h9) rfl dX5_findBarred_193 ?_
        refine lv_iload_n hx hb dX5_findBarred_196 rfl (lv_at hl 1 rfl) ?_
        refine jv_iald hx hb hK hP 8 0 rfl rfl (i := i) ⟨by omega, by omega⟩ (Nat.le_of_ble_eq_true rfl) dX5_findBarred_197 ?_
        refine jv_if_ne (tgt := 243) hx hb ⟨by omega, by omega⟩ dX5_findBarred_198 (by decide) (fun c198 => ?_) (fun c198 => ?_)
        · skip
          refine jv_iinc (lv2 := [(1, .int (jI (i + 1))), (0, .ref hm)]) hx hb dX5_findBarred_243 hl (k := 1) rfl (by decide) rfl (fun ls hl => ?_)
          refine lv_goto (tgt := 184) hx hb dX5_findBarred_246 (by decide) ?_
          exact ihL184 (i + 1) mf' (by omega) (by
            first
            | (rw [flt_n _ hi.1 hq (onL_f (by omega))]; exact h1)
            | (rw [flt_s _ hi.1 hq (onL_t (by omega)), ← List.append_assoc]; exact mkB_s h1 hf7 e2 e3 (by omega) (by omega))) (by omega) _ _ _ (hP.sub [0, 1, 2, 3, 4, 5, 6, 7, 8, 9, 10, 11, 12] rfl) (hD.sub [0, 1, 2, 3, 4, 5, 6, 7, 8, 9, 10, 11, 12] (by decide) rfl) hS (lv_sub hl [1, 0] rfl)
        · skip
          refine lv_aload_n hx hb dX5_findBarred_201 rfl (lv_at hl 0 rfl) ?_
          refine lv_aload_n hx hb dX5_findBarred_202 rfl (lv_at hl 0 rfl) ?_
          refine va_get (D := D) (ci := 5) (v := .ref (md 23)) (C := RX5) (T := TX5) (N := 31) hx hb hts inX5 hown hK hP 0 rfl rfl 23 (by decide) f59 (fun _ h9 => h9) rfl dX5_findBarred_203 ?_
          refine lv_iload_n hx hb dX5_findBarred_206 rfl (lv_at hl 1 rfl) ?_
          refine jv_iald hx hb hK hP 9 0 rfl rfl (i := i) ⟨by omega, by omega⟩ (Nat.le_of_ble_eq_true rfl) dX5_findBarred_207 ?_
          refine lv_aload_n hx hb dX5_findBarred_208 rfl (lv_at hl 0 rfl) ?_
          refine va_get (D := D) (ci := 5) (v := .ref (md 24)) (C := RX5) (T := TX5) (N := 31) hx hb hts inX5 hown hK hP 0 rfl rfl 24 (by decide) f62 (fun _ h9 => h9) rfl dX5_findBarred_209 ?_
          refine lv_iload_n hx hb dX5_findBarred_212 rfl (lv_at hl 1 rfl) ?_
          refine jv_iald hx hb hK hP 10 0 rfl rfl (i := i) ⟨by omega, by omega⟩ (Nat.le_of_ble_eq_true rfl) dX5_findBarred_213 ?_
          refine lv_aload_n hx hb dX5_findBarred_214 rfl (lv_at hl 0 rfl) ?_
          refine va_get (D := D) (ci := 5) (v := .ref (md 23)) (C := RX5) (T := TX5) (N := 31) hx hb hts inX5 hown hK hP 0 rfl rfl 23 (by decide) f59 (fun _ h9 => h9) rfl dX5_findBarred_215 ?_
          refine lv_iload_n hx hb dX5_findBarred_218 rfl (lv_at hl 1 rfl) ?_
          refine jv_iald hx hb hK hP 9 0 rfl rfl (i := i) ⟨by omega, by omega⟩ (Nat.le_of_ble_eq_true rfl) dX5_findBarred_219 ?_
          refine lv_aload_n hx hb dX5_findBarred_220 rfl (lv_at hl 0 rfl) ?_
          refine va_get (D := D) (ci := 5) (v := .ref (md 25)) (C := RX5) (T := TX5) (N := 31) hx hb hts inX5 hown hK hP 0 rfl rfl 25 (by decide) f65 (fun _ h9 => h9) rfl dX5_findBarred_221 ?_
          refine lv_iload_n hx hb dX5_findBarred_224 rfl (lv_at hl 1 rfl) ?_
          refine jv_iald hx hb hK hP 11 0 rfl rfl (i := i) ⟨by omega, by omega⟩ (Nat.le_of_ble_eq_true rfl) dX5_findBarred_225 ?_
          refine jv_iadd hx hb dX5_findBarred_226 ?_
          refine lv_aload_n hx hb dX5_findBarred_227 rfl (lv_at hl 0 rfl) ?_
          refine va_get (D := D) (ci := 5) (v := .ref (md 24)) (C := RX5) (T := TX5) (N := 31) hx hb hts inX5 hown hK hP 0 rfl rfl 24 (by decide) f62 (fun _ h9 => h9) rfl dX5_findBarred_228 ?_
          refine lv_iload_n hx hb dX5_findBarred_231 rfl (lv_at hl 1 rfl) ?_
          refine jv_iald hx hb hK hP 10 0 rfl rfl (i := i) ⟨by omega, by omega⟩ (Nat.le_of_ble_eq_true rfl) dX5_findBarred_232 ?_
          refine lv_aload_n hx hb dX5_findBarred_233 rfl (lv_at hl 0 rfl) ?_
          refine va_get (D := D) (ci := 5) (v := .ref (md 25)) (C := RX5) (T := TX5) (N := 31) hx hb hts inX5 hown hK hP 0 rfl rfl 25 (by decide) f65 (fun _ h9 => h9) rfl dX5_findBarred_234 ?_
          refine lv_iload_n hx hb dX5_findBarred_237 rfl (lv_at hl 1 rfl) ?_
          refine jv_iald hx hb hK hP 11 0 rfl rfl (i := i) ⟨by omega, by omega⟩ (Nat.le_of_ble_eq_true rfl) dX5_findBarred_238 ?_
          refine jv_iadd hx hb dX5_findBarred_239 ?_
          refine jc_Vv (As := [.int (jI (rx i)), .int (jI (ry i)), .int (jI ((rx i) + (rs i))), .int (jI ((ry i) + (rs i)))]) (rest := []) (wq := [((md 5), .inl (g.1, 200, .inl (aI sn))), ((md 6), .inl (g.1, 200, .inl (aI sl))), ((md 7), .inl (g.1, 800, .inl (aI bo))), ((md 13), .inl (g.1, 60, .inl (aI qn))), ((md 14), .inl (g.1, 60, .inl (aI qs))), ((md 15), .inl (g.1, 60, .inl (aI qx))), ((md 16), .inl (g.1, 60, .inl (aI qy))), ((md 22), .inl (g.1, 1500, .inl (aI rl))), ((md 23), .inl (g.1, 1500, .inl (aI rx))), ((md 24), .inl (g.1, 1500, .inl (aI ry))), ((md 25), .inl (g.1, 1500, .inl (aI rs)))]) ⟨hx, hb, hml, hown, hts⟩ (tX5_bar l D g hm md co ly nt ns nd np nq tq mf' (rx i) (ry i) ((rx i) + (rs i)) ((ry i) + (rs i)) (by omega)) (cwV 4 hts gX5_findBarred_X5_bar rfl rfl rfl (by decide +kernel) ⟨Nat.le_of_ble_eq_true rfl, Nat.le_of_ble_eq_true rfl⟩) hK hP hD hS hA [0, 12] [1, 2, 3, 4, 5, 6, 7, 8, 9, 10, 11] rfl rfl (by decide) (by decide) (by decide) (va_recv hK hP (ci := 5) (q0 := 0) rfl rfl) rfl rfl hl.1 (Nat.le_of_ble_eq_true rfl) dX5_findBarred_240 ⟨Nat.le_of_ble_eq_true rfl, Nat.le_of_ble_eq_true rfl⟩ (fun u H locs hu hP hD hS => ?_)
          obtain ⟨f7, rfl⟩ : ∃ z9, z9 = u := ⟨_, rfl⟩
          have hu : mkM mf' f7 ((rx i) - 5) ((ry i) - 5) (((rx i) + (rs i)) + 2) (((ry i) + (rs i)) + 2) := hu
          have hf7 := hu
          have hP : va_P D jcl [((md 5), .inl (g.1, 200, .inl (aI sn))), ((md 6), .inl (g.1, 200, .inl (aI sl))), ((md 7), .inl (g.1, 800, .inl (aI bo))), ((md 13), .inl (g.1, 60, .inl (aI qn))), ((md 14), .inl (g.1, 60, .inl (aI qs))), ((md 15), .inl (g.1, 60, .inl (aI qx))), ((md 16), .inl (g.1, 60, .inl (aI qy))), ((md 22), .inl (g.1, 1500, .inl (aI rl))), ((md 23), .inl (g.1, 1500, .inl (aI rx))), ((md 24), .inl (g.1, 1500, .inl (aI ry))), ((md 25), .inl (g.1, 1500, .inl (aI rs))), (hm, .inr (5, [.int (jI co), .int (jI ly), .int (jI nt), .ref (md 3), .int (jI ns), .ref (md 5), .ref (md 6), .ref (md 7), .int (jI nd), .ref (md 9), .ref (md 10), .ref (md 11), .int (jI np), .ref (md 13), .ref (md 14), .ref (md 15), .ref (md 16), .ref (md 17), .ref (md 18), .ref (md 19), .ref (md 20), .int (jI nq), .ref (md 22), .ref (md 23), .ref (md 24), .ref (md 25), .ref (md 26), .int (jI tq), .ref (md 28), .ref (md 29), .ref (md 30)])), ((md 29), .inl (g.2.1, 16000, .inr (.inl (aW f7))))] H := hP
          have hD : va_D A [((md 5), .inl (g.1, 200, .inl (aI sn))), ((md 6), .inl (g.1, 200, .inl (aI sl))), ((md 7), .inl (g.1, 800, .inl (aI bo))), ((md 13), .inl (g.1, 60, .inl (aI qn))), ((md 14), .inl (g.1, 60, .inl (aI qs))), ((md 15), .inl (g.1, 60, .inl (aI qx))), ((md 16), .inl (g.1, 60, .inl (aI qy))), ((md 22), .inl (g.1, 1500, .inl (aI rl))), ((md 23), .inl (g.1, 1500, .inl (aI rx))), ((md 24), .inl (g.1, 1500, .inl (aI ry))), ((md 25), .inl (g.1, 1500, .inl (aI rs))), (hm, .inr (5, [.int (jI co), .int (jI ly), .int (jI nt), .ref (md 3), .int (jI ns), .ref (md 5), .ref (md 6), .ref (md 7), .int (jI nd), .ref (md 9), .ref (md 10), .ref (md 11), .int (jI np), .ref (md 13), .ref (md 14), .ref (md 15), .ref (md 16), .ref (md 17), .ref (md 18), .ref (md 19), .ref (md 20), .int (jI nq), .ref (md 22), .ref (md 23), .ref (md 24), .ref (md 25), .ref (md 26), .int (jI tq), .ref (md 28), .ref (md 29), .ref (md 30)])), ((md 29), .inl (g.2.1, 16000, .inr (.inl (aW f7))))] := hD
          refine jv_iinc (lv2 := [(1, .int (jI (i + 1))), (0, .ref hm)]) hx hb dX5_findBarred_243 hl (k := 1) rfl (by decide) rfl (fun ls hl => ?_)
          refine lv_goto (tgt := 184) hx hb dX5_findBarred_246 (by decide) ?_
          exact ihL184 (i + 1) f7 (by omega) (by
            first
            | (rw [flt_n _ hi.1 hq (onL_f (by omega))]; exact h1)
            | (rw [flt_s _ hi.1 hq (onL_t (by omega)), ← List.append_assoc]; exact mkB_s h1 hf7 e2 e3 (by omega) (by omega))) (by omega) _ _ _ (hP.sub [11, 0, 1, 2, 3, 4, 5, 6, 7, 8, 9, 10, 12] rfl) (hD.sub [11, 0, 1, 2, 3, 4, 5, 6, 7, 8, 9, 10, 12] (by decide) rfl) hS (lv_sub hl [1, 0] rfl)
  have L136 : ∀ (fuel : Nat) (i : Int) (mf' : Int → Int64), (0 ≤ i ∧ i ≤ np) → (mkB mf' (L.filter (onL 0) ++ (pre (DD.map fun d => d.1) i).filter (onL 0))) → (np - i < (fuel : Int)) → ∀ (H : Heap) (locs : List Loc) (ls : Array Slot), va_P D jcl [(hm, .inr (5, [.int (jI co), .int (jI ly), .int (jI nt), .ref (md 3), .int (jI ns), .ref (md 5), .ref (md 6), .ref (md 7), .int (jI nd), .ref (md 9), .ref (md 10), .ref (md 11), .int (jI np), .ref (md 13), .ref (md 14), .ref (md 15), .ref (md 16), .ref (md 17), .ref (md 18), .ref (md 19), .ref (md 20), .int (jI nq), .ref (md 22), .ref (md 23), .ref (md 24), .ref (md 25), .ref (md 26), .int (jI tq), .ref (md 28), .ref (md 29), .ref (md 30)])), ((md 5), .inl (g.1, 200, .inl (aI sn))), ((md 6), .inl (g.1, 200, .inl (aI sl))), ((md 7), .inl (g.1, 800, .inl (aI bo))), ((md 13), .inl (g.1, 60, .inl (aI qn))), ((md 14), .inl (g.1, 60, .inl (aI qs))), ((md 15), .inl (g.1, 60, .inl (aI qx))), ((md 16), .inl (g.1, 60, .inl (aI qy))), ((md 22), .inl (g.1, 1500, .inl (aI rl))), ((md 23), .inl (g.1, 1500, .inl (aI rx))), ((md 24), .inl (g.1, 1500, .inl (aI ry))), ((md 25), .inl (g.1, 1500, .inl (aI rs))), ((md 29), .inl (g.2.1, 16000, .inr (.inl (aW mf'))))] H → va_D A [(hm, .inr (5, [.int (jI co), .int (jI ly), .int (jI nt), .ref (md 3), .int (jI ns), .ref (md 5), .ref (md 6), .ref (md 7), .int (jI nd), .ref (md 9), .ref (md 10), .ref (md 11), .int (jI np), .ref (md 13), .ref (md 14), .ref (md 15), .ref (md 16), .ref (md 17), .ref (md 18), .ref (md 19), .ref (md 20), .int (jI nq), .ref (md 22), .ref (md 23), .ref (md 24), .ref (md 25), .ref (md 26), .int (jI tq), .ref (md 28), .ref (md 29), .ref (md 30)])), ((md 5), .inl (g.1, 200, .inl (aI sn))), ((md 6), .inl (g.1, 200, .inl (aI sl))), ((md 7), .inl (g.1, 800, .inl (aI bo))), ((md 13), .inl (g.1, 60, .inl (aI qn))), ((md 14), .inl (g.1, 60, .inl (aI qs))), ((md 15), .inl (g.1, 60, .inl (aI qx))), ((md 16), .inl (g.1, 60, .inl (aI qy))), ((md 22), .inl (g.1, 1500, .inl (aI rl))), ((md 23), .inl (g.1, 1500, .inl (aI rx))), ((md 24), .inl (g.1, 1500, .inl (aI ry))), ((md 25), .inl (g.1, 1500, .inl (aI rs))), ((md 29), .inl (g.2.1, 16000, .inr (.inl (aW mf'))))] → va_S A s.heap H locs → lv_has ls 2 [(0, .ref hm), (1, .int (jI i))] → W p l e (jR 4 140) s m args below meth c H locs 0 0 Q (F0 m 136 ls []) := by
    intro fuel
    induction fuel with
    | zero =>
      intro i mf' hi h1 hfu
      exfalso; omega
    | succ fuel ihL136 =>
      intro i mf' hi h1 hfu H locs ls hP hD hS hl
      refine lv_iload_n hx hb dX5_findBarred_136 rfl (lv_at hl 1 rfl) ?_
      refine lv_aload_n hx hb dX5_findBarred_137 rfl (lv_at hl 0 rfl) ?_
      refine va_get (D := D) (ci := 5) (v := .int (jI np)) (C := RX5) (T := TX5) (N := 31) hx hb hts inX5 hown hK hP 0 rfl rfl 12 (by decide) f139 (fun _ h9 => h9) rfl dX5_findBarred_138 ?_
      refine jv_icmp_ge (tgt := 182) hx hb ⟨by omega, by omega⟩ ⟨by omega, by omega⟩ dX5_findBarred_141 (by decide) (fun c141 => ?_) (fun c141 => ?_)
      · skip
        refine jv_iconst hx hb dX5_findBarred_182 ?_
        refine lv_istore_n (lv' := [(1, .int (jI 0)), (0, .ref hm)]) hx hb dX5_findBarred_183 rfl hl (by decide) rfl (fun ls hl => ?_)
        exact L184 ((nq - 0).toNat + 1) 0 mf' (by omega) (by
          rw [pre_0, List.filter_nil, List.append_nil, ← pre_all (L := (DD.map fun d => d.1)) (i := i) (by rw [List.length_map]; omega)]; exact h1) (by omega) _ _ _ (hP.sub [0, 1, 2, 3, 4, 5, 6, 7, 8, 9, 10, 11, 12] rfl) (hD.sub [0, 1, 2, 3, 4, 5, 6, 7, 8, 9, 10, 11, 12] (by decide) rfl) hS (lv_sub hl [1, 0] rfl)
      · skip
        obtain ⟨q, hq, e0, e1, e2, e3, e4, e5, e6, hok⟩ := md_at hmd (k := i) ⟨hi.1, by omega⟩
        have hok2 := hok
        unfold okQ at hok
        refine lv_aload_n hx hb dX5_findBarred_144 rfl (lv_at hl 0 rfl) ?_
        refine lv_aload_n hx hb dX5_findBarred_145 rfl (lv_at hl 0 rfl) ?_
        refine va_get (D := D) (ci := 5) (v := .ref (md 15)) (C := RX5) (T := TX5) (N := 31) hx hb hts inX5 hown hK hP 0 rfl rfl 15 (by decide) f38 (fun _ h9 => h9) rfl dX5_findBarred_146 ?_
        refine lv_iload_n hx hb dX5_findBarred_149 rfl (lv_at hl 1 rfl) ?_
        refine jv_iald hx hb hK hP 6 0 rfl rfl (i := i) ⟨by omega, by omega⟩ (Nat.le_of_ble_eq_true rfl) dX5_findBarred_150 ?_
        refine lv_aload_n hx hb dX5_findBarred_151 rfl (lv_at hl 0 rfl) ?_
        refine va_get (D := D) (ci := 5) (v := .ref (md 16)) (C := RX5) (T := TX5) (N := 31) hx hb hts inX5 hown hK hP 0 rfl rfl 16 (by decide) f41 (fun _ h9 => h9) rfl dX5_findBarred_152 ?_
        refine lv_iload_n hx hb dX5_findBarred_155 rfl (lv_at hl 1 rfl) ?_
        refine jv_iald hx hb hK hP 7 0 rfl rfl (i := i) ⟨by omega, by omega⟩ (Nat.le_of_ble_eq_true rfl) dX5_findBarred_156 ?_
        refine lv_aload_n hx hb dX5_findBarred_157 rfl (lv_at hl 0 rfl) ?_
        refine va_get (D := D) (ci := 5) (v := .ref (md 15)) (C := RX5) (T := TX5) (N := 31) hx hb hts inX5 hown hK hP 0 rfl rfl 15 (by decide) f38 (fun _ h9 => h9) rfl dX5_findBarred_158 ?_
        refine lv_iload_n hx hb dX5_findBarred_161 rfl (lv_at hl 1 rfl) ?_
        refine jv_iald hx hb hK hP 6 0 rfl rfl (i := i) ⟨by omega, by omega⟩ (Nat.le_of_ble_eq_true rfl) dX5_findBarred_162 ?_
        refine jv_iconst hx hb dX5_findBarred_163 ?_
        refine jv_iadd hx hb dX5_findBarred_164 ?_
        refine lv_aload_n hx hb dX5_findBarred_165 rfl (lv_at hl 0 rfl) ?_
        refine va_get (D := D) (ci := 5) (v := .ref (md 16)) (C := RX5) (T := TX5) (N := 31) hx hb hts inX5 hown hK hP 0 rfl rfl 16 (by decide) f41 (fun _ h9 => h9) rfl dX5_findBarred_166 ?_
        refine lv_iload_n hx hb dX5_findBarred_169 rfl (lv_at hl 1 rfl) ?_
        refine jv_iald hx hb hK hP 7 0 rfl rfl (i := i) ⟨by omega, by omega⟩ (Nat.le_of_ble_eq_true rfl) dX5_findBarred_170 ?_
        refine jv_iconst hx hb dX5_findBarred_171 ?_
        refine jv_iadd hx hb dX5_findBarred_172 ?_
        refine jc_Vv (As := [.int (jI (qx i)), .int (jI (qy i)), .int (jI ((qx i) + 4)), .int (jI ((qy i) + 4))]) (rest := []) (wq := [((md 5), .inl (g.1, 200, .inl (aI sn))), ((md 6), .inl (g.1, 200, .inl (aI sl))), ((md 7), .inl (g.1, 800, .inl (aI bo))), ((md 13), .inl (g.1, 60, .inl (aI qn))), ((md 14), .inl (g.1, 60, .inl (aI qs))), ((md 15), .inl (g.1, 60, .inl (aI qx))), ((md 16), .inl (g.1, 60, .inl (aI qy))), ((md 22), .inl (g.1, 1500, .inl (aI rl))), ((md 23), .inl (g.1, 1500, .inl (aI rx))), ((md 24), .inl (g.1, 1500, .inl (aI ry))), ((md 25), .inl (g.1, 1500, .inl (aI rs)))]) ⟨hx, hb, hml, hown, hts⟩ (tX5_bar l D g hm md co ly nt ns nd np nq tq mf' (qx i) (qy i) ((qx i) + 4) ((qy i) + 4) (by omega)) (cwV 4 hts gX5_findBarred_X5_bar rfl rfl rfl (by decide +kernel) ⟨Nat.le_of_ble_eq_true rfl, Nat.le_of_ble_eq_true rfl⟩) hK hP hD hS hA [0, 12] [1, 2, 3, 4, 5, 6, 7, 8, 9, 10, 11] rfl rfl (by decide) (by decide) (by decide) (va_recv hK hP (ci := 5) (q0 := 0) rfl rfl) rfl rfl hl.1 (Nat.le_of_ble_eq_true rfl) dX5_findBarred_173 ⟨Nat.le_of_ble_eq_true rfl, Nat.le_of_ble_eq_true rfl⟩ (fun u H locs hu hP hD hS => ?_)
        obtain ⟨f6, rfl⟩ : ∃ z9, z9 = u := ⟨_, rfl⟩
        have hu : mkM mf' f6 ((qx i) - 5) ((qy i) - 5) (((qx i) + 4) + 2) (((qy i) + 4) + 2) := hu
        have hf6 := hu
        have hP : va_P D jcl [((md 5), .inl (g.1, 200, .inl (aI sn))), ((md 6), .inl (g.1, 200, .inl (aI sl))), ((md 7), .inl (g.1, 800, .inl (aI bo))), ((md 13), .inl (g.1, 60, .inl (aI qn))), ((md 14), .inl (g.1, 60, .inl (aI qs))), ((md 15), .inl (g.1, 60, .inl (aI qx))), ((md 16), .inl (g.1, 60, .inl (aI qy))), ((md 22), .inl (g.1, 1500, .inl (aI rl))), ((md 23), .inl (g.1, 1500, .inl (aI rx))), ((md 24), .inl (g.1, 1500, .inl (aI ry))), ((md 25), .inl (g.1, 1500, .inl (aI rs))), (hm, .inr (5, [.int (jI co), .int (jI ly), .int (jI nt), .ref (md 3), .int (jI ns), .ref (md 5), .ref (md 6), .ref (md 7), .int (jI nd), .ref (md 9), .ref (md 10), .ref (md 11), .int (jI np), .ref (md 13), .ref (md 14), .ref (md 15), .ref (md 16), .ref (md 17), .ref (md 18), .ref (md 19), .ref (md 20), .int (jI nq), .ref (md 22), .ref (md 23), .ref (md 24), .ref (md 25), .ref (md 26), .int (jI tq), .ref (md 28), .ref (md 29), .ref (md 30)])), ((md 29), .inl (g.2.1, 16000, .inr (.inl (aW f6))))] H := hP
        have hD : va_D A [((md 5), .inl (g.1, 200, .inl (aI sn))), ((md 6), .inl (g.1, 200, .inl (aI sl))), ((md 7), .inl (g.1, 800, .inl (aI bo))), ((md 13), .inl (g.1, 60, .inl (aI qn))), ((md 14), .inl (g.1, 60, .inl (aI qs))), ((md 15), .inl (g.1, 60, .inl (aI qx))), ((md 16), .inl (g.1, 60, .inl (aI qy))), ((md 22), .inl (g.1, 1500, .inl (aI rl))), ((md 23), .inl (g.1, 1500, .inl (aI rx))), ((md 24), .inl (g.1, 1500, .inl (aI ry))), ((md 25), .inl (g.1, 1500, .inl (aI rs))), (hm, .inr (5, [.int (jI co), .int (jI ly), .int (jI nt), .ref (md 3), .int (jI ns), .ref (md 5), .ref (md 6), .ref (md 7), .int (jI nd), .ref (md 9), .ref (md 10), .ref (md 11), .int (jI np), .ref (md 13), .ref (md 14), .ref (md 15), .ref (md 16), .ref (md 17), .ref (md 18), .ref (md 19), .ref (md 20), .int (jI nq), .ref (md 22), .ref (md 23), .ref (md 24), .ref (md 25), .ref (md 26), .int (jI tq), .ref (md 28), .ref (md 29), .ref (md 30)])), ((md 29), .inl (g.2.1, 16000, .inr (.inl (aW f6))))] := hD
        refine jv_iinc (lv2 := [(1, .int (jI (i + 1))), (0, .ref hm)]) hx hb dX5_findBarred_176 hl (k := 1) rfl (by decide) rfl (fun ls hl => ?_)
        refine lv_goto (tgt := 136) hx hb dX5_findBarred_179 (by decide) ?_
        exact ihL136 (i + 1) f6 (by omega) (by rw [flt_s _ hi.1 (map_get (fun d : jD => d.1) hq) (onL_t (by omega)), ← List.append_assoc]; exact mkB_s h1 hf6 e2 e3 (by omega) (by omega)) (by omega) _ _ _ (hP.sub [11, 0, 1, 2, 3, 4, 5, 6, 7, 8, 9, 10, 12] rfl) (hD.sub [11, 0, 1, 2, 3, 4, 5, 6, 7, 8, 9, 10, 12] (by decide) rfl) hS (lv_sub hl [1, 0] rfl)
  have L69 : ∀ (fuel : Nat) (i : Int) (mf' : Int → Int64), (0 ≤ i ∧ i ≤ ns) → (mkB mf' ((pre L i).filter (onL 0))) → (ns - i < (fuel : Int)) → ∀ (H : Heap) (locs : List Loc) (ls : Array Slot), va_P D jcl [(hm, .inr (5, [.int (jI co), .int (jI ly), .int (jI nt), .ref (md 3), .int (jI ns), .ref (md 5), .ref (md 6), .ref (md 7), .int (jI nd), .ref (md 9), .ref (md 10), .ref (md 11), .int (jI np), .ref (md 13), .ref (md 14), .ref (md 15), .ref (md 16), .ref (md 17), .ref (md 18), .ref (md 19), .ref (md 20), .int (jI nq), .ref (md 22), .ref (md 23), .ref (md 24), .ref (md 25), .ref (md 26), .int (jI tq), .ref (md 28), .ref (md 29), .ref (md 30)])), ((md 5), .inl (g.1, 200, .inl (aI sn))), ((md 6), .inl (g.1, 200, .inl (aI sl))), ((md 7), .inl (g.1, 800, .inl (aI bo))), ((md 13), .inl (g.1, 60, .inl (aI qn))), ((md 14), .inl (g.1, 60, .inl (aI qs))), ((md 15), .inl (g.1, 60, .inl (aI qx))), ((md 16), .inl (g.1, 60, .inl (aI qy))), ((md 22), .inl (g.1, 1500, .inl (aI rl))), ((md 23), .inl (g.1, 1500, .inl (aI rx))), ((md 24), .inl (g.1, 1500, .inl (aI ry))), ((md 25), .inl (g.1, 1500, .inl (aI rs))), ((md 29), .inl (g.2.1, 16000, .inr (.inl (aW mf'))))] H → va_D A [(hm, .inr (5, [.int (jI co), .int (jI ly), .int (jI nt), .ref (md 3), .int (jI ns), .ref (md 5), .ref (md 6), .ref (md 7), .int (jI nd), .ref (md 9), .ref (md 10), .ref (md 11), .int (jI np), .ref (md 13), .ref (md 14), .ref (md 15), .ref (md 16), .ref (md 17), .ref (md 18), .ref (md 19), .ref (md 20), .int (jI nq), .ref (md 22), .ref (md 23), .ref (md 24), .ref (md 25), .ref (md 26), .int (jI tq), .ref (md 28), .ref (md 29), .ref (md 30)])), ((md 5), .inl (g.1, 200, .inl (aI sn))), ((md 6), .inl (g.1, 200, .inl (aI sl))), ((md 7), .inl (g.1, 800, .inl (aI bo))), ((md 13), .inl (g.1, 60, .inl (aI qn))), ((md 14), .inl (g.1, 60, .inl (aI qs))), ((md 15), .inl (g.1, 60, .inl (aI qx))), ((md 16), .inl (g.1, 60, .inl (aI qy))), ((md 22), .inl (g.1, 1500, .inl (aI rl))), ((md 23), .inl (g.1, 1500, .inl (aI rx))), ((md 24), .inl (g.1, 1500, .inl (aI ry))), ((md 25), .inl (g.1, 1500, .inl (aI rs))), ((md 29), .inl (g.2.1, 16000, .inr (.inl (aW mf'))))] → va_S A s.heap H locs → lv_has ls 2 [(0, .ref hm), (1, .int (jI i))] → W p l e (jR 4 140) s m args below meth c H locs 0 0 Q (F0 m 69 ls []) := by
    intro fuel
    induction fuel with
    | zero =>
      intro i mf' hi h1 hfu
      exfalso; omega
    | succ fuel ihL69 =>
      intro i mf' hi h1 hfu H locs ls hP hD hS hl
      refine lv_iload_n hx hb dX5_findBarred_69 rfl (lv_at hl 1 rfl) ?_
      refine lv_aload_n hx hb dX5_findBarred_70 rfl (lv_at hl 0 rfl) ?_
      refine va_get (D := D) (ci := 5) (v := .int (jI ns)) (C := RX5) (T := TX5) (N := 31) hx hb hts inX5 hown hK hP 0 rfl rfl 4 (by decide) f102 (fun _ h9 => h9) rfl dX5_findBarred_71 ?_
      refine jv_icmp_ge (tgt := 134) hx hb ⟨by omega, by omega⟩ ⟨by omega, by omega⟩ dX5_findBarred_74 (by decide) (fun c74 => ?_) (fun c74 => ?_)
      · skip
        refine jv_iconst hx hb dX5_findBarred_134 ?_
        refine lv_istore_n (lv' := [(1, .int (jI 0)), (0, .ref hm)]) hx hb dX5_findBarred_135 rfl hl (by decide) rfl (fun ls hl => ?_)
        exact L136 ((np - 0).toNat + 1) 0 mf' (by omega) (by
          rw [pre_0, List.filter_nil, List.append_nil, ← pre_all (L := L) (i := i) (by omega)]; exact h1) (by omega) _ _ _ (hP.sub [0, 1, 2, 3, 4, 5, 6, 7, 8, 9, 10, 11, 12] rfl) (hD.sub [0, 1, 2, 3, 4, 5, 6, 7, 8, 9, 10, 11, 12] (by decide) rfl) hS (lv_sub hl [1, 0] rfl)
      · skip
        obtain ⟨q, hq, e0, e1, e2, e3, e4, e5, hok⟩ := ms_at hms (k := i) ⟨hi.1, by omega⟩
        have hok2 := hok
        unfold okQ at hok
        refine lv_aload_n hx hb dX5_findBarred_77 rfl (lv_at hl 0 rfl) ?_
        refine va_get (D := D) (ci := 5) (v := .ref (md 6)) (C := RX5) (T := TX5) (N := 31) hx hb hts inX5 hown hK hP 0 rfl rfl 6 (by decide) f17 (fun _ h9 => h9) rfl dX5_findBarred_78 ?_
        refine lv_iload_n hx hb dX5_findBarred_81 rfl (lv_at hl 1 rfl) ?_
        refine jv_iald hx hb hK hP 2 0 rfl rfl (i := i) ⟨by omega, by omega⟩ (Nat.le_of_ble_eq_true rfl) dX5_findBarred_82 ?_
        refine jv_if_ne (tgt := 128) hx hb ⟨by omega, by omega⟩ dX5_findBarred_83 (by decide) (fun c83 => ?_) (fun c83 => ?_)
        · skip
          refine jv_iinc (lv2 := [(1, .int (jI (i + 1))), (0, .ref hm)]) hx hb dX5_findBarred_128 hl (k := 1) rfl (by decide) rfl (fun ls hl => ?_)
          refine lv_goto (tgt := 69) hx hb dX5_findBarred_131 (by decide) ?_
          exact ihL69 (i + 1) mf' (by omega) (by
            first
            | (rw [flt_n _ hi.1 hq (onL_f (by omega))]; exact h1)
            | (rw [flt_s _ hi.1 hq (onL_t (by omega))]; exact mkB_s h1 hf5 e2 e3 e4 e5)) (by omega) _ _ _ (hP.sub [0, 1, 2, 3, 4, 5, 6, 7, 8, 9, 10, 11, 12] rfl) (hD.sub [0, 1, 2, 3, 4, 5, 6, 7, 8, 9, 10, 11, 12] (by decide) rfl) hS (lv_sub hl [1, 0] rfl)
        · skip
          refine lv_aload_n hx hb dX5_findBarred_86 rfl (lv_at hl 0 rfl) ?_
          refine lv_aload_n hx hb dX5_findBarred_87 rfl (lv_at hl 0 rfl) ?_
          refine va_get (D := D) (ci := 5) (v := .ref (md 7)) (C := RX5) (T := TX5) (N := 31) hx hb hts inX5 hown hK hP 0 rfl rfl 7 (by decide) f20 (fun _ h9 => h9) rfl dX5_findBarred_88 ?_
          refine jv_iconst hx hb dX5_findBarred_91 ?_
          refine lv_iload_n hx hb dX5_findBarred_92 rfl (lv_at hl 1 rfl) ?_
          refine jv_imul hx hb dX5_findBarred_93 ?_
          refine jv_iald hx hb hK hP 3 0 rfl rfl (i := (4 * i)) ⟨by omega, by omega⟩ (Nat.le_of_ble_eq_true rfl) dX5_findBarred_94 ?_
          refine lv_aload_n hx hb dX5_findBarred_95 rfl (lv_at hl 0 rfl) ?_
          refine va_get (D := D) (ci := 5) (v := .ref (md 7)) (C := RX5) (T := TX5) (N := 31) hx hb hts inX5 hown hK hP 0 rfl rfl 7 (by decide) f20 (fun _ h9 => h9) rfl dX5_findBarred_96 ?_
          refine jv_iconst hx hb dX5_findBarred_99 ?_
          refine lv_iload_n hx hb dX5_findBarred_100 rfl (lv_at hl 1 rfl) ?_
          refine jv_imul hx hb dX5_findBarred_101 ?_
          refine jv_iconst hx hb dX5_findBarred_102 ?_
          refine jv_iadd hx hb dX5_findBarred_103 ?_
          refine jv_iald hx hb hK hP 3 0 rfl rfl (i := ((4 * i) + 1)) ⟨by omega, by omega⟩ (Nat.le_of_ble_eq_true rfl) dX5_findBarred_104 ?_
          refine lv_aload_n hx hb dX5_findBarred_105 rfl (lv_at hl 0 rfl) ?_
          refine va_get (D := D) (ci := 5) (v := .ref (md 7)) (C := RX5) (T := TX5) (N := 31) hx hb hts inX5 hown hK hP 0 rfl rfl 7 (by decide) f20 (fun _ h9 => h9) rfl dX5_findBarred_106 ?_
          refine jv_iconst hx hb dX5_findBarred_109 ?_
          refine lv_iload_n hx hb dX5_findBarred_110 rfl (lv_at hl 1 rfl) ?_
          refine jv_imul hx hb dX5_findBarred_111 ?_
          refine jv_iconst hx hb dX5_findBarred_112 ?_
          refine jv_iadd hx hb dX5_findBarred_113 ?_
          refine jv_iald hx hb hK hP 3 0 rfl rfl (i := ((4 * i) + 2)) ⟨by omega, by omega⟩ (Nat.le_of_ble_eq_true rfl) dX5_findBarred_114 ?_
          refine lv_aload_n hx hb dX5_findBarred_115 rfl (lv_at hl 0 rfl) ?_
          refine va_get (D := D) (ci := 5) (v := .ref (md 7)) (C := RX5) (T := TX5) (N := 31) hx hb hts inX5 hown hK hP 0 rfl rfl 7 (by decide) f20 (fun _ h9 => h9) rfl dX5_findBarred_116 ?_
          refine jv_iconst hx hb dX5_findBarred_119 ?_
          refine lv_iload_n hx hb dX5_findBarred_120 rfl (lv_at hl 1 rfl) ?_
          refine jv_imul hx hb dX5_findBarred_121 ?_
          refine jv_iconst hx hb dX5_findBarred_122 ?_
          refine jv_iadd hx hb dX5_findBarred_123 ?_
          refine jv_iald hx hb hK hP 3 0 rfl rfl (i := ((4 * i) + 3)) ⟨by omega, by omega⟩ (Nat.le_of_ble_eq_true rfl) dX5_findBarred_124 ?_
          refine jc_Vv (As := [.int (jI (bo (4 * i))), .int (jI (bo ((4 * i) + 1))), .int (jI (bo ((4 * i) + 2))), .int (jI (bo ((4 * i) + 3)))]) (rest := []) (wq := [((md 5), .inl (g.1, 200, .inl (aI sn))), ((md 6), .inl (g.1, 200, .inl (aI sl))), ((md 7), .inl (g.1, 800, .inl (aI bo))), ((md 13), .inl (g.1, 60, .inl (aI qn))), ((md 14), .inl (g.1, 60, .inl (aI qs))), ((md 15), .inl (g.1, 60, .inl (aI qx))), ((md 16), .inl (g.1, 60, .inl (aI qy))), ((md 22), .inl (g.1, 1500, .inl (aI rl))), ((md 23), .inl (g.1, 1500, .inl (aI rx))), ((md 24), .inl (g.1, 1500, .inl (aI ry))), ((md 25), .inl (g.1, 1500, .inl (aI rs)))]) ⟨hx, hb, hml, hown, hts⟩ (tX5_bar l D g hm md co ly nt ns nd np nq tq mf' (bo (4 * i)) (bo ((4 * i) + 1)) (bo ((4 * i) + 2)) (bo ((4 * i) + 3)) (by omega)) (cwV 4 hts gX5_findBarred_X5_bar rfl rfl rfl (by decide +kernel) ⟨Nat.le_of_ble_eq_true rfl, Nat.le_of_ble_eq_true rfl⟩) hK hP hD hS hA [0, 12] [1, 2, 3, 4, 5, 6, 7, 8, 9, 10, 11] rfl rfl (by decide) (by decide) (by decide) (va_recv hK hP (ci := 5) (q0 := 0) rfl rfl) rfl rfl hl.1 (Nat.le_of_ble_eq_true rfl) dX5_findBarred_125 ⟨Nat.le_of_ble_eq_true rfl, Nat.le_of_ble_eq_true rfl⟩ (fun u H locs hu hP hD hS => ?_)
          obtain ⟨f5, rfl⟩ : ∃ z9, z9 = u := ⟨_, rfl⟩
          have hu : mkM mf' f5 ((bo (4 * i)) - 5) ((bo ((4 * i) + 1)) - 5) ((bo ((4 * i) + 2)) + 2) ((bo ((4 * i) + 3)) + 2) := hu
          have hf5 := hu
          have hP : va_P D jcl [((md 5), .inl (g.1, 200, .inl (aI sn))), ((md 6), .inl (g.1, 200, .inl (aI sl))), ((md 7), .inl (g.1, 800, .inl (aI bo))), ((md 13), .inl (g.1, 60, .inl (aI qn))), ((md 14), .inl (g.1, 60, .inl (aI qs))), ((md 15), .inl (g.1, 60, .inl (aI qx))), ((md 16), .inl (g.1, 60, .inl (aI qy))), ((md 22), .inl (g.1, 1500, .inl (aI rl))), ((md 23), .inl (g.1, 1500, .inl (aI rx))), ((md 24), .inl (g.1, 1500, .inl (aI ry))), ((md 25), .inl (g.1, 1500, .inl (aI rs))), (hm, .inr (5, [.int (jI co), .int (jI ly), .int (jI nt), .ref (md 3), .int (jI ns), .ref (md 5), .ref (md 6), .ref (md 7), .int (jI nd), .ref (md 9), .ref (md 10), .ref (md 11), .int (jI np), .ref (md 13), .ref (md 14), .ref (md 15), .ref (md 16), .ref (md 17), .ref (md 18), .ref (md 19), .ref (md 20), .int (jI nq), .ref (md 22), .ref (md 23), .ref (md 24), .ref (md 25), .ref (md 26), .int (jI tq), .ref (md 28), .ref (md 29), .ref (md 30)])), ((md 29), .inl (g.2.1, 16000, .inr (.inl (aW f5))))] H := hP
          have hD : va_D A [((md 5), .inl (g.1, 200, .inl (aI sn))), ((md 6), .inl (g.1, 200, .inl (aI sl))), ((md 7), .inl (g.1, 800, .inl (aI bo))), ((md 13), .inl (g.1, 60, .inl (aI qn))), ((md 14), .inl (g.1, 60, .inl (aI qs))), ((md 15), .inl (g.1, 60, .inl (aI qx))), ((md 16), .inl (g.1, 60, .inl (aI qy))), ((md 22), .inl (g.1, 1500, .inl (aI rl))), ((md 23), .inl (g.1, 1500, .inl (aI rx))), ((md 24), .inl (g.1, 1500, .inl (aI ry))), ((md 25), .inl (g.1, 1500, .inl (aI rs))), (hm, .inr (5, [.int (jI co), .int (jI ly), .int (jI nt), .ref (md 3), .int (jI ns), .ref (md 5), .ref (md 6), .ref (md 7), .int (jI nd), .ref (md 9), .ref (md 10), .ref (md 11), .int (jI np), .ref (md 13), .ref (md 14), .ref (md 15), .ref (md 16), .ref (md 17), .ref (md 18), .ref (md 19), .ref (md 20), .int (jI nq), .ref (md 22), .ref (md 23), .ref (md 24), .ref (md 25), .ref (md 26), .int (jI tq), .ref (md 28), .ref (md 29), .ref (md 30)])), ((md 29), .inl (g.2.1, 16000, .inr (.inl (aW f5))))] := hD
          refine jv_iinc (lv2 := [(1, .int (jI (i + 1))), (0, .ref hm)]) hx hb dX5_findBarred_128 hl (k := 1) rfl (by decide) rfl (fun ls hl => ?_)
          refine lv_goto (tgt := 69) hx hb dX5_findBarred_131 (by decide) ?_
          exact ihL69 (i + 1) f5 (by omega) (by
            first
            | (rw [flt_n _ hi.1 hq (onL_f (by omega))]; exact h1)
            | (rw [flt_s _ hi.1 hq (onL_t (by omega))]; exact mkB_s h1 hf5 e2 e3 e4 e5)) (by omega) _ _ _ (hP.sub [11, 0, 1, 2, 3, 4, 5, 6, 7, 8, 9, 10, 12] rfl) (hD.sub [11, 0, 1, 2, 3, 4, 5, 6, 7, 8, 9, 10, 12] (by decide) rfl) hS (lv_sub hl [1, 0] rfl)
  refine jv_iconst hx hb dX5_findBarred_67 ?_
  refine lv_istore_n (lv' := [(1, .int (jI 0)), (0, .ref hm)]) hx hb dX5_findBarred_68 rfl hl (by decide) rfl (fun ls hl => ?_)
  exact L69 ((ns - 0).toNat + 1) 0 f4 (by omega) (by rw [pre_0]; exact mkB_0 hcl hf1 hf2 hf3 hf4) (by omega) _ _ _ (hP.sub [0, 1, 2, 3, 4, 5, 6, 7, 8, 9, 10, 11, 12] rfl) (hD.sub [0, 1, 2, 3, 4, 5, 6, 7, 8, 9, 10, 11, 12] (by decide) rfl) hS (lv_sub hl [1, 0] rfl)
