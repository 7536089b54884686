set_option maxHeartbeats 4000000 in
set_option maxRecDepth 100000 in
/-- sumUpTo -/
theorem tX4_sumUpTo (l : Launch) (D : va_G) (g : ClassId × ClassId × ClassId) (h : Nat) (ad : Nat → Nat) (ly : Int) (nt : Int) (td : Int) (tc : Int) (r : Nat) (nl : Nat) (f : Int → Int) (net : Int) (layer : Int) (hnl : nl < 2147483648 ∧ (nl : Int) = 40 * ly) (hly : 1 ≤ ly ∧ ly ≤ 64) (hnet : 0 ≤ net ∧ net < 40) (hlay : 0 ≤ layer ∧ layer < ly) : jMl l D g yX4_sumUpTo wsX4_sumUpTo 1 26 [.ref h, .ref r, .int (jI net), .int (jI layer)] [(h, .inr (4, [.int (jI ly), .int (jI nt), .ref (ad 2), .ref (ad 3), .ref (ad 4), .ref (ad 5), .ref (ad 6), .int (jI td), .ref (ad 8), .ref (ad 9), .ref (ad 10), .ref (ad 11), .ref (ad 12), .ref (ad 13), .ref (ad 14), .int (jI tc), .ref (ad 16), .ref (ad 17), .ref (ad 18)])), (r, .inl (g.2.1, nl, .inr (.inl (aL f))))] (S := Unit) (fun z _ => z = jL (su f (net * ly) (layer + 1).toNat)) (fun _ => [(h, .inr (4, [.int (jI ly), .int (jI nt), .ref (ad 2), .ref (ad 3), .ref (ad 4), .ref (ad 5), .ref (ad 6), .int (jI td), .ref (ad 8), .ref (ad 9), .ref (ad 10), .ref (ad 11), .ref (ad 12), .ref (ad 13), .ref (ad 14), .int (jI tc), .ref (ad 16), .ref (ad 17), .ref (ad 18)])), (r, .inl (g.2.1, nl, .inr (.inl (aL f))))]) := by
  refine jMl_of (cc := cX4_sumUpTo) (maxL := 7) (by decide) rfl (Nat.le_of_ble_eq_true rfl) ?_
  intro p e s m args below meth c Q A hx hb hml hts hown hK hA hret ls hl hP hD
  have hS : va_S A s.heap s.heap [] := va_S.rf
  have hown : s.vm.findClass RX4 = some m.cls := hown
  have f18 := hts (.fieldLink RX4 18 "AntennaFill" "layers" "I") (by decide +kernel)
  have inX4 : ∀ w ∈ wsX40, w ∈ wsX4_sumUpTo := by decide +kernel
  have hl : lv_has ls 7 [(0, .ref h), (1, .ref r), (2, .int (jI net)), (3, .int (jI layer))] := hl
  have L6 : ∀ (fuel : Nat) (i : Int), (0 ≤ i ∧ i ≤ layer + 1) → (layer + 1 - i < (fuel : Int)) → ∀ (H : Heap) (locs : List Loc) (ls : Array Slot), va_P D jcl [(h, .inr (4, [.int (jI ly), .int (jI nt), .ref (ad 2), .ref (ad 3), .ref (ad 4), .ref (ad 5), .ref (ad 6), .int (jI td), .ref (ad 8), .ref (ad 9), .ref (ad 10), .ref (ad 11), .ref (ad 12), .ref (ad 13), .ref (ad 14), .int (jI tc), .ref (ad 16), .ref (ad 17), .ref (ad 18)])), (r, .inl (g.2.1, nl, .inr (.inl (aL f))))] H → va_D A [(h, .inr (4, [.int (jI ly), .int (jI nt), .ref (ad 2), .ref (ad 3), .ref (ad 4), .ref (ad 5), .ref (ad 6), .int (jI td), .ref (ad 8), .ref (ad 9), .ref (ad 10), .ref (ad 11), .ref (ad 12), .ref (ad 13), .ref (ad 14), .int (jI tc), .ref (ad 16), .ref (ad 17), .ref (ad 18)])), (r, .inl (g.2.1, nl, .inr (.inl (aL f))))] → va_S A s.heap H locs → lv_has ls 7 [(0, .ref h), (1, .ref r), (2, .int (jI net)), (3, .int (jI layer)), (4, .long (jL (su f (net * ly) (Int.toNat i)))), (6, .int (jI i))] → W p l e (jR 1 26) s m args below meth c H locs 0 0 Q (F0 m 6 ls []) := by
    intro fuel
    induction fuel with
    | zero =>
      intro i hi hfu
      exfalso; omega
    | succ fuel ihL6 =>
      intro i hi hfu H locs ls hP hD hS hl
      refine lv_iload hx hb dX4_sumUpTo_6 (lv_at hl 5 rfl) ?_
      refine lv_iload_n hx hb dX4_sumUpTo_8 rfl (lv_at hl 3 rfl) ?_
      refine jv_icmp_gt (tgt := 34) hx hb ⟨by omega, by omega⟩ ⟨by omega, by omega⟩ dX4_sumUpTo_9 (by decide) (fun c9 => ?_) (fun c9 => ?_)
      · skip
        refine lv_lload hx hb dX4_sumUpTo_34 (lv_at hl 4 rfl) ?_
        exact hret (jL (su f (net * ly) (Int.toNat i))) () _ _ _ _ (by rw [show i = layer + 1 by omega]) (hP.sub [0, 1] rfl) (hD.sub [0, 1] (by decide) rfl) hS dX4_sumUpTo_36
      · skip
        have hix := idx_ok hnet (show 0 ≤ i ∧ i < ly by omega)
        refine lv_lload hx hb dX4_sumUpTo_12 (lv_at hl 4 rfl) ?_
        refine lv_aload_n hx hb dX4_sumUpTo_14 rfl (lv_at hl 1 rfl) ?_
        refine lv_iload_n hx hb dX4_sumUpTo_15 rfl (lv_at hl 2 rfl) ?_
        refine lv_aload_n hx hb dX4_sumUpTo_16 rfl (lv_at hl 0 rfl) ?_
        refine va_get (D := D) (ci := 4) (v := .int (jI ly)) (C := RX4) (T := TX4) (N := 19) hx hb hts inX4 hown hK hP 0 rfl rfl 0 (by decide) f18 (fun _ h9 => h9) rfl dX4_sumUpTo_17 ?_
        refine jv_imul hx hb dX4_sumUpTo_20 ?_
        refine lv_iload hx hb dX4_sumUpTo_21 (lv_at hl 5 rfl) ?_
        refine jv_iadd hx hb dX4_sumUpTo_23 ?_
        refine jv_lald hx hb hK hP 1 1 rfl rfl (i := ((net * ly) + i)) ⟨by omega, by omega⟩ hnl.1 dX4_sumUpTo_24 ?_
        refine jv_ladd hx hb dX4_sumUpTo_25 ?_
        refine jv_topL (b := su f (net * ly) (i + 1).toNat) (su_s f (net * ly) hi.1).symm ?_
        refine lv_lstore (lv' := [(4, .long (jL (su f (net * ly) (Int.toNat (i + 1))))), (0, .ref h), (1, .ref r), (2, .int (jI net)), (3, .int (jI layer)), (6, .int (jI i))]) hx hb dX4_sumUpTo_26 hl (by decide) rfl (fun ls hl => ?_)
        refine jv_iinc (lv2 := [(6, .int (jI (i + 1))), (4, .long (jL (su f (net * ly) (Int.toNat (i + 1))))), (0, .ref h), (1, .ref r), (2, .int (jI net)), (3, .int (jI layer))]) hx hb dX4_sumUpTo_28 hl (k := 5) rfl (by decide) rfl (fun ls hl => ?_)
        refine lv_goto (tgt := 6) hx hb dX4_sumUpTo_31 (by decide) ?_
        exact ihL6 (i + 1) (by omega) (by omega) _ _ _ (hP.sub [0, 1] rfl) (hD.sub [0, 1] (by decide) rfl) hS (lv_sub hl [2, 3, 4, 5, 1, 0] rfl)
  refine jv_lconst0 hx hb dX4_sumUpTo_0 ?_
  refine jv_topL (b := su f (net * ly) (0 : Int).toNat) rfl ?_
  refine lv_lstore (lv' := [(4, .long (jL (su f (net * ly) (Int.toNat 0)))), (0, .ref h), (1, .ref r), (2, .int (jI net)), (3, .int (jI layer))]) hx hb dX4_sumUpTo_1 hl (by decide) rfl (fun ls hl => ?_)
  refine jv_iconst hx hb dX4_sumUpTo_3 ?_
  refine lv_istore (lv' := [(6, .int (jI 0)), (4, .long (jL (su f (net * ly) (Int.toNat 0)))), (0, .ref h), (1, .ref r), (2, .int (jI net)), (3, .int (jI layer))]) hx hb dX4_sumUpTo_4 hl (by decide) rfl (fun ls hl => ?_)
  exact L6 ((layer + 1 - 0).toNat + 1) 0 (by omega) (by omega) _ _ _ (hP.sub [0, 1] rfl) (hD.sub [0, 1] (by decide) rfl) hS (lv_sub hl [2, 3, 4, 5, 1, 0] rfl)

set_option maxHeartbeats 4000000 in
set_option maxRecDepth 100000 in
/-- guardOf -/
theorem tX4_guardOf (l : Launch) (D : va_G) (g : ClassId × ClassId × ClassId) (h : Nat) (ad : Nat → Nat) (ly : Int) (nt : Int) (td : Int) (tc : Int) (nl : Nat) (ga : Int → Int) (da : Int → Int) (net : Int) (layer : Int) (hnl : nl < 2147483648 ∧ (nl : Int) = 40 * ly) (hly : 1 ≤ ly ∧ ly ≤ 64) (hnet : 0 ≤ net ∧ net < 40) (hlay : 0 ≤ layer ∧ layer < ly) : jMl l D g yX4_guardOf wsX4_guardOf 2 53 [.ref h, .int (jI net), .int (jI layer)] [(h, .inr (4, [.int (jI ly), .int (jI nt), .ref (ad 2), .ref (ad 3), .ref (ad 4), .ref (ad 5), .ref (ad 6), .int (jI td), .ref (ad 8), .ref (ad 9), .ref (ad 10), .ref (ad 11), .ref (ad 12), .ref (ad 13), .ref (ad 14), .int (jI tc), .ref (ad 16), .ref (ad 17), .ref (ad 18)])), ((ad 2), .inl (g.2.1, 40, .inr (.inl (aL ga)))), ((ad 9), .inl (g.2.1, nl, .inr (.inl (aL da))))] (S := Unit) (fun z _ => z = jL (gua ga da ly net layer)) (fun _ => [(h, .inr (4, [.int (jI ly), .int (jI nt), .ref (ad 2), .ref (ad 3), .ref (ad 4), .ref (ad 5), .ref (ad 6), .int (jI td), .ref (ad 8), .ref (ad 9), .ref (ad 10), .ref (ad 11), .ref (ad 12), .ref (ad 13), .ref (ad 14), .int (jI tc), .ref (ad 16), .ref (ad 17), .ref (ad 18)])), ((ad 2), .inl (g.2.1, 40, .inr (.inl (aL ga)))), ((ad 9), .inl (g.2.1, nl, .inr (.inl (aL da))))]) := by
  refine jMl_of (cc := cX4_guardOf) (maxL := 3) (by decide) rfl (Nat.le_of_ble_eq_true rfl) ?_
  intro p e s m args below meth c Q A hx hb hml hts hown hK hA hret ls hl hP hD
  have hS : va_S A s.heap s.heap [] := va_S.rf
  have hown : s.vm.findClass RX4 = some m.cls := hown
  have f22 := hts (.fieldLink RX4 22 "AntennaFill" "gateAreas" "[J") (by decide +kernel)
  have f48 := hts (.fieldLink RX4 48 "AntennaFill" "diodeAreas" "[J") (by decide +kernel)
  have inX4 : ∀ w ∈ wsX40, w ∈ wsX4_guardOf := by decide +kernel
  have k247 := hts (.constantLong RX4 247 (8)) (by decide +kernel)
  have hl : lv_has ls 3 [(0, .ref h), (1, .int (jI net)), (2, .int (jI layer))] := hl
  refine lv_aload_n hx hb dX4_guardOf_0 rfl (lv_at hl 0 rfl) ?_
  refine va_get (D := D) (ci := 4) (v := .ref (ad 2)) (C := RX4) (T := TX4) (N := 19) hx hb hts inX4 hown hK hP 0 rfl rfl 2 (by decide) f22 (fun _ h9 => h9) rfl dX4_guardOf_1 ?_
  refine lv_iload_n hx hb dX4_guardOf_4 rfl (lv_at hl 1 rfl) ?_
  refine jv_lald hx hb hK hP 1 1 rfl rfl (i := net) ⟨by omega, by omega⟩ (Nat.le_of_ble_eq_true rfl) dX4_guardOf_5 ?_
  refine jv_ldc2 (n := 8) hx hb (by decide) hown k247 dX4_guardOf_6 ?_
  refine lv_aload_n hx hb dX4_guardOf_9 rfl (lv_at hl 0 rfl) ?_
  refine lv_aload_n hx hb dX4_guardOf_10 rfl (lv_at hl 0 rfl) ?_
  refine va_get (D := D) (ci := 4) (v := .ref (ad 9)) (C := RX4) (T := TX4) (N := 19) hx hb hts inX4 hown hK hP 0 rfl rfl 9 (by decide) f48 (fun _ h9 => h9) rfl dX4_guardOf_11 ?_
  refine lv_iload_n hx hb dX4_guardOf_14 rfl (lv_at hl 1 rfl) ?_
  refine lv_iload_n hx hb dX4_guardOf_15 rfl (lv_at hl 2 rfl) ?_
  refine jc_Vl (As := [.ref (ad 9), .int (jI net), .int (jI layer)]) (rest := [.long (jL 8), .long (jL (ga net))]) (wq := [((ad 2), .inl (g.2.1, 40, .inr (.inl (aL ga))))]) ⟨hx, hb, hml, hown, hts⟩ (tX4_sumUpTo l D g h ad ly nt td tc (ad 9) nl da net layer (hnl) (hly) (hnet) (hlay)) (cwV 3 hts gX4_guardOf_X4_sumUpTo rfl rfl rfl (by decide +kernel) ⟨Nat.le_of_ble_eq_true rfl, Nat.le_of_ble_eq_true rfl⟩) hK hP hD hS hA [0, 2] [1] rfl rfl (by decide) (by decide) (by decide) (va_recv hK hP (ci := 4) (q0 := 0) rfl rfl) rfl rfl hl.1 (Nat.le_of_ble_eq_true rfl) dX4_guardOf_16 ⟨Nat.le_refl 0, Nat.le_refl 0⟩ (fun z_1 u H locs hu hP hD hS => ?_)
  have hu : z_1 = jL (su da (net * ly) (layer + 1).toNat) := hu
  have hP : va_P D jcl [((ad 2), .inl (g.2.1, 40, .inr (.inl (aL ga)))), (h, .inr (4, [.int (jI ly), .int (jI nt), .ref (ad 2), .ref (ad 3), .ref (ad 4), .ref (ad 5), .ref (ad 6), .int (jI td), .ref (ad 8), .ref (ad 9), .ref (ad 10), .ref (ad 11), .ref (ad 12), .ref (ad 13), .ref (ad 14), .int (jI tc), .ref (ad 16), .ref (ad 17), .ref (ad 18)])), ((ad 9), .inl (g.2.1, nl, .inr (.inl (aL da))))] H := hP
  have hD : va_D A [((ad 2), .inl (g.2.1, 40, .inr (.inl (aL ga)))), (h, .inr (4, [.int (jI ly), .int (jI nt), .ref (ad 2), .ref (ad 3), .ref (ad 4), .ref (ad 5), .ref (ad 6), .int (jI td), .ref (ad 8), .ref (ad 9), .ref (ad 10), .ref (ad 11), .ref (ad 12), .ref (ad 13), .ref (ad 14), .int (jI tc), .ref (ad 16), .ref (ad 17), .ref (ad 18)])), ((ad 9), .inl (g.2.1, nl, .inr (.inl (aL da))))] := hD
  subst hu
  refine jv_lmul hx hb dX4_guardOf_19 ?_
  refine jv_ladd hx hb dX4_guardOf_20 ?_
  exact hret (jL ((ga net) + (8 * (su da (net * ly) (layer + 1).toNat)))) () _ _ _ _ (rfl) (hP.sub [1, 0, 2] rfl) (hD.sub [1, 0, 2] (by decide) rfl) hS dX4_guardOf_21

set_option maxHeartbeats 4000000 in
set_option maxRecDepth 100000 in
/-- isOver -/
theorem tX4_isOver (l : Launch) (D : va_G) (g : ClassId × ClassId × ClassId) (h : Nat) (ad : Nat → Nat) (ly : Int) (nt : Int) (td : Int) (tc : Int) (nl : Nat) (ln : Nat) (ga : Int → Int) (sa : Int → Int) (da : Int → Int) (la : Int → Int) (lb : Int → Int) (net : Int) (layer : Int) (hnl : nl < 2147483648 ∧ (nl : Int) = 40 * ly) (hln : ln < 2147483648 ∧ (ln : Int) = ly) (hly : 1 ≤ ly ∧ ly ≤ 64) (hnet : 0 ≤ net ∧ net < 40) (hlay : 0 ≤ layer ∧ layer < ly) (hga : ∀ k, 0 ≤ ga k ∧ ga k ≤ 1000000000) (hsa : ∀ k, 0 ≤ sa k ∧ sa k ≤ 1000000) (hda : ∀ k, 0 ≤ da k ∧ da k ≤ 200000000) (hla : ∀ k, 0 ≤ la k ∧ la k ≤ 1000000) (hlb : ∀ k, 0 ≤ lb k ∧ lb k ≤ 1000000) : jMi l D g yX4_isOver wsX4_isOver 3 80 [.ref h, .int (jI net), .int (jI layer)] [(h, .inr (4, [.int (jI ly), .int (jI nt), .ref (ad 2), .ref (ad 3), .ref (ad 4), .ref (ad 5), .ref (ad 6), .int (jI td), .ref (ad 8), .ref (ad 9), .ref (ad 10), .ref (ad 11), .ref (ad 12), .ref (ad 13), .ref (ad 14), .int (jI tc), .ref (ad 16), .ref (ad 17), .ref (ad 18)])), ((ad 2), .inl (g.2.1, 40, .inr (.inl (aL ga)))), ((ad 8), .inl (g.2.1, nl, .inr (.inl (aL sa)))), ((ad 9), .inl (g.2.1, nl, .inr (.inl (aL da)))), ((ad 10), .inl (g.2.1, ln, .inr (.inl (aL la)))), ((ad 11), .inl (g.2.1, ln, .inr (.inl (aL lb))))] (S := Unit) (fun z _ => (z = 1 ∧ over ga da sa la lb ly net layer) ∨ (z = 0 ∧ ¬ over ga da sa la lb ly net layer)) (fun _ => [(h, .inr (4, [.int (jI ly), .int (jI nt), .ref (ad 2), .ref (ad 3), .ref (ad 4), .ref (ad 5), .ref (ad 6), .int (jI td), .ref (ad 8), .ref (ad 9), .ref (ad 10), .ref (ad 11), .ref (ad 12), .ref (ad 13), .ref (ad 14), .int (jI tc), .ref (ad 16), .ref (ad 17), .ref (ad 18)])), ((ad 2), .inl (g.2.1, 40, .inr (.inl (aL ga)))), ((ad 8), .inl (g.2.1, nl, .inr (.inl (aL sa)))), ((ad 9), .inl (g.2.1, nl, .inr (.inl (aL da)))), ((ad 10), .inl (g.2.1, ln, .inr (.inl (aL la)))), ((ad 11), .inl (g.2.1, ln, .inr (.inl (aL lb))))]) := by
  refine jMz_of (cc := cX4_isOver) (maxL := 5) (by decide) rfl (Nat.le_of_ble_eq_true rfl) ?_
  intro p e s m args below meth c Q A hx hb hml hts hown hK hA hret ls hl hP hD
  have hS : va_S A s.heap s.heap [] := va_S.rf
  have hown : s.vm.findClass RX4 = some m.cls := hown
  have f22 := hts (.fieldLink RX4 22 "AntennaFill" "gateAreas" "[J") (by decide +kernel)
  have f45 := hts (.fieldLink RX4 45 "AntennaFill" "shapeAreas" "[J") (by decide +kernel)
  have f51 := hts (.fieldLink RX4 51 "AntennaFill" "limitAbove" "[J") (by decide +kernel)
  have f54 := hts (.fieldLink RX4 54 "AntennaFill" "limitBelow" "[J") (by decide +kernel)
  have inX4 : ∀ w ∈ wsX40, w ∈ wsX4_isOver := by decide +kernel
  have hl : lv_has ls 5 [(0, .ref h), (1, .int (jI net)), (2, .int (jI layer))] := hl
  have b1 := hga net
  have b2 := hlb layer
  have b3 := hla layer
  have b4 := su_bd (b := net * ly) hsa (layer + 1).toNat
  have b5 := su_bd (b := net * ly) hda (layer + 1).toNat
  have b6 : 0 ≤ gua ga da ly net layer ∧ gua ga da ly net layer ≤ 200000000000 := by unfold gua; omega
  have b7 : 0 ≤ su sa (net * ly) (layer + 1).toNat ∧ su sa (net * ly) (layer + 1).toNat ≤ 64000000 := by omega
  have b8 := mul_bd b7 b2
  have b9 := mul_bd b3 b6
  refine lv_aload_n hx hb dX4_isOver_0 rfl (lv_at hl 0 rfl) ?_
  refine va_get (D := D) (ci := 4) (v := .ref (ad 2)) (C := RX4) (T := TX4) (N := 19) hx hb hts inX4 hown hK hP 0 rfl rfl 2 (by decide) f22 (fun _ h9 => h9) rfl dX4_isOver_1 ?_
  refine lv_iload_n hx hb dX4_isOver_4 rfl (lv_at hl 1 rfl) ?_
  refine jv_lald hx hb hK hP 1 1 rfl rfl (i := net) ⟨by omega, by omega⟩ (Nat.le_of_ble_eq_true rfl) dX4_isOver_5 ?_
  refine jv_lconst0 hx hb dX4_isOver_6 ?_
  refine jv_lcmp_eq (tgt := 22) hx hb ⟨by omega, by omega⟩ ⟨by decide, by decide⟩ dX4_isOver_7 dX4_isOver_8 (by decide) (fun c7 => ?_) (fun c7 => ?_)
  · skip
    refine jv_iconst hx hb dX4_isOver_22 ?_
    exact hret 0 () _ _ _ _ (by omega) (Or.inr ⟨rfl, fun q => by have := q.1; have := q.2.1; omega⟩) (hP.sub [0, 1, 2, 3, 4, 5] rfl) (hD.sub [0, 1, 2, 3, 4, 5] (by decide) rfl) hS dX4_isOver_23
  · skip
    refine lv_aload_n hx hb dX4_isOver_11 rfl (lv_at hl 0 rfl) ?_
    refine va_get (D := D) (ci := 4) (v := .ref (ad 11)) (C := RX4) (T := TX4) (N := 19) hx hb hts inX4 hown hK hP 0 rfl rfl 11 (by decide) f54 (fun _ h9 => h9) rfl dX4_isOver_12 ?_
    refine lv_iload_n hx hb dX4_isOver_15 rfl (lv_at hl 2 rfl) ?_
    refine jv_lald hx hb hK hP 5 1 rfl rfl (i := layer) ⟨by omega, by omega⟩ hln.1 dX4_isOver_16 ?_
    refine jv_lconst0 hx hb dX4_isOver_17 ?_
    refine jv_lcmp_ne (tgt := 24) hx hb ⟨by omega, by omega⟩ ⟨by decide, by decide⟩ dX4_isOver_18 dX4_isOver_19 (by decide) (fun c18 => ?_) (fun c18 => ?_)
    · skip
      refine lv_aload_n hx hb dX4_isOver_24 rfl (lv_at hl 0 rfl) ?_
      refine lv_aload_n hx hb dX4_isOver_25 rfl (lv_at hl 0 rfl) ?_
      refine va_get (D := D) (ci := 4) (v := .ref (ad 8)) (C := RX4) (T := TX4) (N := 19) hx hb hts inX4 hown hK hP 0 rfl rfl 8 (by decide) f45 (fun _ h9 => h9) rfl dX4_isOver_26 ?_
      refine lv_iload_n hx hb dX4_isOver_29 rfl (lv_at hl 1 rfl) ?_
      refine lv_iload_n hx hb dX4_isOver_30 rfl (lv_at hl 2 rfl) ?_
      refine jc_Vl (As := [.ref (ad 8), .int (jI net), .int (jI layer)]) (rest := []) (wq := [((ad 2), .inl (g.2.1, 40, .inr (.inl (aL ga)))), ((ad 9), .inl (g.2.1, nl, .inr (.inl (aL da)))), ((ad 10), .inl (g.2.1, ln, .inr (.inl (aL la)))), ((ad 11), .inl (g.2.1, ln, .inr (.inl (aL lb))))]) ⟨hx, hb, hml, hown, hts⟩ (tX4_sumUpTo l D g h ad ly nt td tc (ad 8) nl sa net layer (hnl) (hly) (hnet) (hlay)) (cwV 3 hts gX4_isOver_X4_sumUpTo rfl rfl rfl (by decide +kernel) ⟨Nat.le_of_ble_eq_true rfl, Nat.le_of_ble_eq_true rfl⟩) hK hP hD hS hA [0, 2] [1, 3, 4, 5] rfl rfl (by decide) (by decide) (by decide) (va_recv hK hP (ci := 4) (q0 := 0) rfl rfl) rfl rfl hl.1 (Nat.le_of_ble_eq_true rfl) dX4_isOver_31 ⟨Nat.le_refl 0, Nat.le_refl 0⟩ (fun z_1 u H locs hu hP hD hS => ?_)
      have hu : z_1 = jL (su sa (net * ly) (layer + 1).toNat) := hu
      have hP : va_P D jcl [((ad 2), .inl (g.2.1, 40, .inr (.inl (aL ga)))), ((ad 9), .inl (g.2.1, nl, .inr (.inl (aL da)))), ((ad 10), .inl (g.2.1, ln, .inr (.inl (aL la)))), ((ad 11), .inl (g.2.1, ln, .inr (.inl (aL lb)))), (h, .inr (4, [.int (jI ly), .int (jI nt), .ref (ad 2), .ref (ad 3), .ref (ad 4), .ref (ad 5), .ref (ad 6), .int (jI td), .ref (ad 8), .ref (ad 9), .ref (ad 10), .ref (ad 11), .ref (ad 12), .ref (ad 13), .ref (ad 14), .int (jI tc), .ref (ad 16), .ref (ad 17), .ref (ad 18)])), ((ad 8), .inl (g.2.1, nl, .inr (.inl (aL sa))))] H := hP
      have hD : va_D A [((ad 2), .inl (g.2.1, 40, .inr (.inl (aL ga)))), ((ad 9), .inl (g.2.1, nl, .inr (.inl (aL da)))), ((ad 10), .inl (g.2.1, ln, .inr (.inl (aL la)))), ((ad 11), .inl (g.2.1, ln, .inr (.inl (aL lb)))), (h, .inr (4, [.int (jI ly), .int (jI nt), .ref (ad 2), .ref (ad 3), .ref (ad 4), .ref (ad 5), .ref (ad 6), .int (jI td), .ref (ad 8), .ref (ad 9), .ref (ad 10), .ref (ad 11), .ref (ad 12), .ref (ad 13), .ref (ad 14), .int (jI tc), .ref (ad 16), .ref (ad 17), .ref (ad 18)])), ((ad 8), .inl (g.2.1, nl, .inr (.inl (aL sa))))] := hD
      subst hu
      refine lv_lstore_n (lv' := [(3, .long (jL (su sa (net * ly) (layer + 1).toNat))), (0, .ref h), (1, .int (jI net)), (2, .int (jI layer))]) hx hb dX4_isOver_34 rfl hl (by decide) rfl (fun ls hl => ?_)
      refine lv_lload_n hx hb dX4_isOver_35 rfl (lv_at hl 0 rfl) ?_
      refine lv_aload_n hx hb dX4_isOver_36 rfl (lv_at hl 1 rfl) ?_
      refine va_get (D := D) (ci := 4) (v := .ref (ad 11)) (C := RX4) (T := TX4) (N := 19) hx hb hts inX4 hown hK hP 4 rfl rfl 11 (by decide) f54 (fun _ h9 => h9) rfl dX4_isOver_37 ?_
      refine lv_iload_n hx hb dX4_isOver_40 rfl (lv_at hl 3 rfl) ?_
      refine jv_lald hx hb hK hP 3 1 rfl rfl (i := layer) ⟨by omega, by omega⟩ hln.1 dX4_isOver_41 ?_
      refine jv_lmul hx hb dX4_isOver_42 ?_
      refine lv_aload_n hx hb dX4_isOver_43 rfl (lv_at hl 1 rfl) ?_
      refine va_get (D := D) (ci := 4) (v := .ref (ad 10)) (C := RX4) (T := TX4) (N := 19) hx hb hts inX4 hown hK hP 4 rfl rfl 10 (by decide) f51 (fun _ h9 => h9) rfl dX4_isOver_44 ?_
      refine lv_iload_n hx hb dX4_isOver_47 rfl (lv_at hl 3 rfl) ?_
      refine jv_lald hx hb hK hP 2 1 rfl rfl (i := layer) ⟨by omega, by omega⟩ hln.1 dX4_isOver_48 ?_
      refine lv_aload_n hx hb dX4_isOver_49 rfl (lv_at hl 1 rfl) ?_
      refine lv_iload_n hx hb dX4_isOver_50 rfl (lv_at hl 2 rfl) ?_
      refine lv_iload_n hx hb dX4_isOver_51 rfl (lv_at hl 3 rfl) ?_
      refine jc_Vl (As := [.int (jI net), .int (jI layer)]) (rest := [.long (jL (la layer)), .long (jL ((su sa (net * ly) (layer + 1).toNat) * (lb layer)))]) (wq := [((ad 10), .inl (g.2.1, ln, .inr (.inl (aL la)))), ((ad 11), .inl (g.2.1, ln, .inr (.inl (aL lb)))), ((ad 8), .inl (g.2.1, nl, .inr (.inl (aL sa))))]) ⟨hx, hb, hml, hown, hts⟩ (tX4_guardOf l D g h ad ly nt td tc nl ga da net layer (hnl) (hly) (hnet) (hlay)) (cwV 2 hts gX4_isOver_X4_guardOf rfl rfl rfl (by decide +kernel) ⟨Nat.le_of_ble_eq_true rfl, Nat.le_of_ble_eq_true rfl⟩) hK hP hD hS hA [4, 0, 1] [2, 3, 5] rfl rfl (by decide) (by decide) (by decide) (va_recv hK hP (ci := 4) (q0 := 4) rfl rfl) rfl rfl hl.1 (Nat.le_of_ble_eq_true rfl) dX4_isOver_52 ⟨Nat.le_refl 0, Nat.le_refl 0⟩ (fun z_2 u H locs hu hP hD hS => ?_)
      have hu : z_2 = jL (gua ga da ly net layer) := hu
      have hP : va_P D jcl [((ad 10), .inl (g.2.1, ln, .inr (.inl (aL la)))), ((ad 11), .inl (g.2.1, ln, .inr (.inl (aL lb)))), ((ad 8), .inl (g.2.1, nl, .inr (.inl (aL sa)))), (h, .inr (4, [.int (jI ly), .int (jI nt), .ref (ad 2), .ref (ad 3), .ref (ad 4), .ref (ad 5), .ref (ad 6), .int (jI td), .ref (ad 8), .ref (ad 9), .ref (ad 10), .ref (ad 11), .ref (ad 12), .ref (ad 13), .ref (ad 14), .int (jI tc), .ref (ad 16), .ref (ad 17), .ref (ad 18)])), ((ad 2), .inl (g.2.1, 40, .inr (.inl (aL ga)))), ((ad 9), .inl (g.2.1, nl, .inr (.inl (aL da))))] H := hP
      have hD : va_D A [((ad 10), .inl (g.2.1, ln, .inr (.inl (aL la)))), ((ad 11), .inl (g.2.1, ln, .inr (.inl (aL lb)))), ((ad 8), .inl (g.2.1, nl, .inr (.inl (aL sa)))), (h, .inr (4, [.int (jI ly), .int (jI nt), .ref (ad 2), .ref (ad 3), .ref (ad 4), .ref (ad 5), .ref (ad 6), .int (jI td), .ref (ad 8), .ref (ad 9), .ref (ad 10), .ref (ad 11), .ref (ad 12), .ref (ad 13), .ref (ad 14), .int (jI tc), .ref (ad 16), .ref (ad 17), .ref (ad 18)])), ((ad 2), .inl (g.2.1, 40, .inr (.inl (aL ga)))), ((ad 9), .inl (g.2.1, nl, .inr (.inl (aL da))))] := hD
      subst hu
      refine jv_lmul hx hb dX4_isOver_55 ?_
      refine jv_lcmp_le (tgt := 64) hx hb ⟨by omega, by omega⟩ ⟨by omega, by omega⟩ dX4_isOver_56 dX4_isOver_57 (by decide) (fun c56 => ?_) (fun c56 => ?_)
      · skip
        refine jv_iconst hx hb dX4_isOver_64 ?_
        exact hret 0 () _ _ _ _ (by omega) (Or.inr ⟨rfl, fun q => by have := q.2.2; omega⟩) (hP.sub [3, 4, 2, 5, 0, 1] rfl) (hD.sub [3, 4, 2, 5, 0, 1] (by decide) rfl) hS dX4_isOver_65
      · skip
        refine jv_iconst hx hb dX4_isOver_60 ?_
        refine lv_goto (tgt := 65) hx hb dX4_isOver_61 (by decide) ?_
        exact hret 1 () _ _ _ _ (by omega) (Or.inl ⟨rfl, by omega, by omega, c56⟩) (hP.sub [3, 4, 2, 5, 0, 1] rfl) (hD.sub [3, 4, 2, 5, 0, 1] (by decide) rfl) hS dX4_isOver_65
    · skip
      refine jv_iconst hx hb dX4_isOver_22 ?_
      exact hret 0 () _ _ _ _ (by omega) (Or.inr ⟨rfl, fun q => by have := q.1; have := q.2.1; omega⟩) (hP.sub [0, 1, 2, 3, 4, 5] rfl) (hD.sub [0, 1, 2, 3, 4, 5] (by decide) rfl) hS dX4_isOver_23

set_option maxHeartbeats 4000000 in
set_option maxRecDepth 100000 in
/-- isOverSomewhere -/
theorem tX4_isOverSomewhere (l : Launch) (D : va_G) (g : ClassId × ClassId × ClassId) (h : Nat) (ad : Nat → Nat) (ly : Int) (nt : Int) (td : Int) (tc : Int) (nl : Nat) (ln : Nat) (ga : Int → Int) (sa : Int → Int) (da : Int → Int) (la : Int → Int) (lb : Int → Int) (net : Int) (hnl : nl < 2147483648 ∧ (nl : Int) = 40 * ly) (hln : ln < 2147483648 ∧ (ln : Int) = ly) (hly : 1 ≤ ly ∧ ly ≤ 64) (hnet : 0 ≤ net ∧ net < 40) (hga : ∀ k, 0 ≤ ga k ∧ ga k ≤ 1000000000) (hsa : ∀ k, 0 ≤ sa k ∧ sa k ≤ 1000000) (hda : ∀ k, 0 ≤ da k ∧ da k ≤ 200000000) (hla : ∀ k, 0 ≤ la k ∧ la k ≤ 1000000) (hlb : ∀ k, 0 ≤ lb k ∧ lb k ≤ 1000000) : jMi l D g yX4_isOverSomewhere wsX4_isOverSomewhere 4 105 [.ref h, .int (jI net)] [(h, .inr (4, [.int (jI ly), .int (jI nt), .ref (ad 2), .ref (ad 3), .ref (ad 4), .ref (ad 5), .ref (ad 6), .int (jI td), .ref (ad 8), .ref (ad 9), .ref (ad 10), .ref (ad 11), .ref (ad 12), .ref (ad 13), .ref (ad 14), .int (jI tc), .ref (ad 16), .ref (ad 17), .ref (ad 18)])), ((ad 2), .inl (g.2.1, 40, .inr (.inl (aL ga)))), ((ad 8), .inl (g.2.1, nl, .inr (.inl (aL sa)))), ((ad 9), .inl (g.2.1, nl, .inr (.inl (aL da)))), ((ad 10), .inl (g.2.1, ln, .inr (.inl (aL la)))), ((ad 11), .inl (g.2.1, ln, .inr (.inl (aL lb))))] (S := Unit) (fun z _ => (z = 1 ∧ ∃ layer : Int, (0 ≤ layer ∧ layer < ly) ∧ over ga da sa la lb ly net layer) ∨ (z = 0 ∧ ∀ layer : Int, (0 ≤ layer ∧ layer < ly) → ¬ over ga da sa la lb ly net layer)) (fun _ => [(h, .inr (4, [.int (jI ly), .int (jI nt), .ref (ad 2), .ref (ad 3), .ref (ad 4), .ref (ad 5), .ref (ad 6), .int (jI td), .ref (ad 8), .ref (ad 9), .ref (ad 10), .ref (ad 11), .ref (ad 12), .ref (ad 13), .ref (ad 14), .int (jI tc), .ref (ad 16), .ref (ad 17), .ref (ad 18)])), ((ad 2), .inl (g.2.1, 40, .inr (.inl (aL ga)))), ((ad 8), .inl (g.2.1, nl, .inr (.inl (aL sa)))), ((ad 9), .inl (g.2.1, nl, .inr (.inl (aL da)))), ((ad 10), .inl (g.2.1, ln, .inr (.inl (aL la)))), ((ad 11), .inl (g.2.1, ln, .inr (.inl (aL lb))))]) := by
  refine jMz_of (cc := cX4_isOverSomewhere) (maxL := 3) (by decide) rfl (Nat.le_of_ble_eq_true rfl) ?_
  intro p e s m args below meth c Q A hx hb hml hts hown hK hA hret ls hl hP hD
  have hS : va_S A s.heap s.heap [] := va_S.rf
  have hown : s.vm.findClass RX4 = some m.cls := hown
  have f18 := hts (.fieldLink RX4 18 "AntennaFill" "layers" "I") (by decide +kernel)
  have inX4 : ∀ w ∈ wsX40, w ∈ wsX4_isOverSomewhere := by decide +kernel
  have hl : lv_has ls 3 [(0, .ref h), (1, .int (jI net))] := hl
  have L2 : ∀ (fuel : Nat) (i : Int), (0 ≤ i ∧ i ≤ ly) → (∀ layer : Int, (0 ≤ layer ∧ layer < i) → ¬ over ga da sa la lb ly net layer) → (ly - i < (fuel : Int)) → ∀ (H : Heap) (locs : List Loc) (ls : Array Slot), va_P D jcl [(h, .inr (4, [.int (jI ly), .int (jI nt), .ref (ad 2), .ref (ad 3), .ref (ad 4), .ref (ad 5), .ref (ad 6), .int (jI td), .ref (ad 8), .ref (ad 9), .ref (ad 10), .ref (ad 11), .ref (ad 12), .ref (ad 13), .ref (ad 14), .int (jI tc), .ref (ad 16), .ref (ad 17), .ref (ad 18)])), ((ad 2), .inl (g.2.1, 40, .inr (.inl (aL ga)))), ((ad 8), .inl (g.2.1, nl, .inr (.inl (aL sa)))), ((ad 9), .inl (g.2.1, nl, .inr (.inl (aL da)))), ((ad 10), .inl (g.2.1, ln, .inr (.inl (aL la)))), ((ad 11), .inl (g.2.1, ln, .inr (.inl (aL lb))))] H → va_D A [(h, .inr (4, [.int (jI ly), .int (jI nt), .ref (ad 2), .ref (ad 3), .ref (ad 4), .ref (ad 5), .ref (ad 6), .int (jI td), .ref (ad 8), .ref (ad 9), .ref (ad 10), .ref (ad 11), .ref (ad 12), .ref (ad 13), .ref (ad 14), .int (jI tc), .ref (ad 16), .ref (ad 17), .ref (ad 18)])), ((ad 2), .inl (g.2.1, 40, .inr (.inl (aL ga)))), ((ad 8), .inl (g.2.1, nl, .inr (.inl (aL sa)))), ((ad 9), .inl (g.2.1, nl, .inr (.inl (aL da)))), ((ad 10), .inl (g.2.1, ln, .inr (.inl (aL la)))), ((ad 11), .inl (g.2.1, ln, .inr (.inl (aL lb))))] → va_S A s.heap H locs → lv_has ls 3 [(0, .ref h), (1, .int (jI net)), (2, .int (jI i))] → W p l e (jR 4 105) s m args below meth c H locs 0 0 Q (F0 m 2 ls []) := by
    intro fuel
    induction fuel with
    | zero =>
      intro i hi hno hfu
      exfalso; omega
    | succ fuel ihL2 =>
      intro i hi hno hfu H locs ls hP hD hS hl
      refine lv_iload_n hx hb dX4_isOverSomewhere_2 rfl (lv_at hl 2 rfl) ?_
      refine lv_aload_n hx hb dX4_isOverSomewhere_3 rfl (lv_at hl 0 rfl) ?_
      refine va_get (D := D) (ci := 4) (v := .int (jI ly)) (C := RX4) (T := TX4) (N := 19) hx hb hts inX4 hown hK hP 0 rfl rfl 0 (by decide) f18 (fun _ h9 => h9) rfl dX4_isOverSomewhere_4 ?_
      refine jv_icmp_ge (tgt := 27) hx hb ⟨by omega, by omega⟩ ⟨by omega, by omega⟩ dX4_isOverSomewhere_7 (by decide) (fun c7 => ?_) (fun c7 => ?_)
      · skip
        refine jv_iconst hx hb dX4_isOverSomewhere_27 ?_
        exact hret 0 () _ _ _ _ (by omega) (Or.inr ⟨rfl, fun layer h => hno layer ⟨h.1, by omega⟩⟩) (hP.sub [0, 1, 2, 3, 4, 5] rfl) (hD.sub [0, 1, 2, 3, 4, 5] (by decide) rfl) hS dX4_isOverSomewhere_28
      · skip
        refine lv_aload_n hx hb dX4_isOverSomewhere_10 rfl (lv_at hl 0 rfl) ?_
        refine lv_iload_n hx hb dX4_isOverSomewhere_11 rfl (lv_at hl 1 rfl) ?_
        refine lv_iload_n hx hb dX4_isOverSomewhere_12 rfl (lv_at hl 2 rfl) ?_
        refine jc_Vi (As := [.int (jI net), .int (jI i)]) (rest := []) (wq := []) ⟨hx, hb, hml, hown, hts⟩ (tX4_isOver l D g h ad ly nt td tc nl ln ga sa da la lb net i (hnl) (hln) (hly) (hnet) (⟨hi.1, by omega⟩) (hga) (hsa) (hda) (hla) (hlb)) (cwV 2 hts gX4_isOverSomewhere_X4_isOver rfl rfl rfl (by decide +kernel) ⟨Nat.le_of_ble_eq_true rfl, Nat.le_of_ble_eq_true rfl⟩) hK hP hD hS hA [0, 1, 2, 3, 4, 5] [] rfl rfl (by decide) (by decide) (by decide) (va_recv hK hP (ci := 4) (q0 := 0) rfl rfl) rfl rfl hl.1 (Nat.le_of_ble_eq_true rfl) dX4_isOverSomewhere_13 ⟨Nat.le_refl 0, Nat.le_refl 0⟩ (fun z9 u H locs hu hP hD hS => ?_)
        have hu : (z9 = 1 ∧ over ga da sa la lb ly net i) ∨ (z9 = 0 ∧ ¬ over ga da sa la lb ly net i) := hu
        have hP : va_P D jcl [(h, .inr (4, [.int (jI ly), .int (jI nt), .ref (ad 2), .ref (ad 3), .ref (ad 4), .ref (ad 5), .ref (ad 6), .int (jI td), .ref (ad 8), .ref (ad 9), .ref (ad 10), .ref (ad 11), .ref (ad 12), .ref (ad 13), .ref (ad 14), .int (jI tc), .ref (ad 16), .ref (ad 17), .ref (ad 18)])), ((ad 2), .inl (g.2.1, 40, .inr (.inl (aL ga)))), ((ad 8), .inl (g.2.1, nl, .inr (.inl (aL sa)))), ((ad 9), .inl (g.2.1, nl, .inr (.inl (aL da)))), ((ad 10), .inl (g.2.1, ln, .inr (.inl (aL la)))), ((ad 11), .inl (g.2.1, ln, .inr (.inl (aL lb))))] H := hP
        have hD : va_D A [(h, .inr (4, [.int (jI ly), .int (jI nt), .ref (ad 2), .ref (ad 3), .ref (ad 4), .ref (ad 5), .ref (ad 6), .int (jI td), .ref (ad 8), .ref (ad 9), .ref (ad 10), .ref (ad 11), .ref (ad 12), .ref (ad 13), .ref (ad 14), .int (jI tc), .ref (ad 16), .ref (ad 17), .ref (ad 18)])), ((ad 2), .inl (g.2.1, 40, .inr (.inl (aL ga)))), ((ad 8), .inl (g.2.1, nl, .inr (.inl (aL sa)))), ((ad 9), .inl (g.2.1, nl, .inr (.inl (aL da)))), ((ad 10), .inl (g.2.1, ln, .inr (.inl (aL la)))), ((ad 11), .inl (g.2.1, ln, .inr (.inl (aL lb))))] := hD
        have hz9 : z9 = 0 ∨ z9 = 1 := by rcases hu with q | q <;> omega
        refine jv_if_eq (tgt := 21) hx hb ⟨by omega, by omega⟩ dX4_isOverSomewhere_16 (by decide) (fun c16 => ?_) (fun c16 => ?_)
        · skip
          have hov : ¬ over ga da sa la lb ly net i := by
              rcases hu with q | q
              · omega
              · exact q.2
          refine jv_iinc (lv2 := [(2, .int (jI (i + 1))), (0, .ref h), (1, .int (jI net))]) hx hb dX4_isOverSomewhere_21 hl (k := 2) rfl (by decide) rfl (fun ls hl => ?_)
          refine lv_goto (tgt := 2) hx hb dX4_isOverSomewhere_24 (by decide) ?_
          exact ihL2 (i + 1) (by omega) (fun layer h => by
              rcases Int.lt_or_eq_of_le (show layer ≤ i by omega) with q | q
              · exact hno layer ⟨h.1, q⟩
              · rw [q]; exact hov) (by omega) _ _ _ (hP.sub [0, 1, 2, 3, 4, 5] rfl) (hD.sub [0, 1, 2, 3, 4, 5] (by decide) rfl) hS (lv_sub hl [1, 2, 0] rfl)
        · skip
          have hov : over ga da sa la lb ly net i := by
              rcases hu with q | q
              · exact q.2
              · omega
          refine jv_iconst hx hb dX4_isOverSomewhere_19 ?_
          exact hret 1 () _ _ _ _ (by omega) (Or.inl ⟨rfl, i, ⟨hi.1, by omega⟩, hov⟩) (hP.sub [0, 1, 2, 3, 4, 5] rfl) (hD.sub [0, 1, 2, 3, 4, 5] (by decide) rfl) hS dX4_isOverSomewhere_20
  refine jv_iconst hx hb dX4_isOverSomewhere_0 ?_
  refine lv_istore_n (lv' := [(2, .int (jI 0)), (0, .ref h), (1, .int (jI net))]) hx hb dX4_isOverSomewhere_1 rfl hl (by decide) rfl (fun ls hl => ?_)
  exact L2 ((ly - 0).toNat + 1) 0 (by omega) (fun layer h => by omega) (by omega) _ _ _ (hP.sub [0, 1, 2, 3, 4, 5] rfl) (hD.sub [0, 1, 2, 3, 4, 5] (by decide) rfl) hS (lv_sub hl [1, 2, 0] rfl)

set_option maxHeartbeats 4000000 in
set_option maxRecDepth 100000 in
/-- areaOfPercent -/
theorem tX4_areaOfPercent (l : Launch) (D : va_G) (g : ClassId × ClassId × ClassId) (pc9 : Int) (hp : rI pc9) : jMl l D g yX4_areaOfPercent wsX4_areaOfPercent 1 20 [.int (jI pc9)] [] (S := Unit) (fun z _ => z = jL (pc9 * 400)) (fun _ => []) := by
  refine jMl_of (cc := cX4_areaOfPercent) (maxL := 1) (by decide) rfl (Nat.le_of_ble_eq_true rfl) ?_
  intro p e s m args below meth c Q A hx hb hml hts hown hK hA hret ls hl hP hD
  have hS : va_S A s.heap s.heap [] := va_S.rf
  have hown : s.vm.findClass RX4 = some m.cls := hown
  have k231 := hts (.constantLong RX4 231 (400)) (by decide +kernel)
  have hl : lv_has ls 1 [(0, .int (jI pc9))] := hl
  refine lv_iload_n hx hb dX4_areaOfPercent_0 rfl (lv_at hl 0 rfl) ?_
  refine jv_i2l hx hb ⟨by omega, by omega⟩ dX4_areaOfPercent_1 ?_
  refine jv_ldc2 (n := 400) hx hb (by decide) hown k231 dX4_areaOfPercent_2 ?_
  refine jv_lmul hx hb dX4_areaOfPercent_5 ?_
  exact hret (jL (pc9 * 400)) () _ _ _ _ (rfl) (hP.sub [] rfl) (hD.sub [] (by decide) rfl) hS dX4_areaOfPercent_6

set_option maxHeartbeats 4000000 in
set_option maxRecDepth 100000 in
/-- inLowestTerms -/
theorem tX4_inLowestTerms (l : Launch) (D : va_G) (g : ClassId × ClassId × ClassId) (u : Int) (lw : Int) (part : Int) (hu : 0 ≤ u ∧ u ≤ 1125899906842624) (hlw : 0 < lw ∧ lw ≤ 1125899906842624) (hpart : rI part) : jMl l D g yX4_inLowestTerms wsX4_inLowestTerms 1 32 [.long (jL u), .long (jL lw), .int (jI part)] [] (S := Unit) (fun z _ => z = jL (lowt u lw part)) (fun _ => []) := by
  refine jMl_of (cc := cX4_inLowestTerms) (maxL := 12) (by decide) rfl (Nat.le_of_ble_eq_true rfl) ?_
  intro p e s m args below meth c Q A hx hb hml hts hown hK hA hret ls hl hP hD
  have hS : va_S A s.heap s.heap [] := va_S.rf
  have hown : s.vm.findClass RX4 = some m.cls := hown
  have hl : lv_has ls 12 [(0, .long (jL u)), (2, .long (jL lw)), (4, .int (jI part))] := hl
  have J45 : ∀ (a : Int), (a = (Int.gcd u lw : Int) ∧ 0 < a ∧ a ≤ 1125899906842624) → ∀ (H : Heap) (locs : List Loc) (ls : Array Slot), va_P D jcl [] H → va_D A [] → va_S A s.heap H locs → lv_has ls 12 [(0, .long (jL u)), (2, .long (jL lw)), (4, .int (jI part)), (5, .long (jL a))] → W p l e (jR 1 32) s m args below meth c H locs 0 0 Q (F0 m 45 ls []) := by
    intro a ha H locs ls hP hD hS hl
    have J55 : ∀ (v : Int), (v = (if part = 0 then u else lw) ∧ 0 ≤ v ∧ v ≤ 1125899906842624) → ∀ (H : Heap) (locs : List Loc) (ls : Array Slot), va_P D jcl [] H → va_D A [] → va_S A s.heap H locs → lv_has ls 12 [(0, .long (jL u)), (2, .long (jL lw)), (4, .int (jI part)), (5, .long (jL a))] → W p l e (jR 1 32) s m args below meth c H locs 0 0 Q (F0 m 55 ls [.long (jL v)]) := by
      intro v hv H locs ls hP hD hS hl
      refine lv_lstore (lv' := [(9, .long (jL v)), (0, .long (jL u)), (2, .long (jL lw)), (4, .int (jI part)), (5, .long (jL a))]) hx hb dX4_inLowestTerms_55 hl (by decide) rfl (fun ls hl => ?_)
      refine lv_lload hx hb dX4_inLowestTerms_57 (lv_at hl 4 rfl) ?_
      refine jv_lconst0 hx hb dX4_inLowestTerms_59 ?_
      refine jv_lcmp_le (tgt := 72) hx hb ⟨by omega, by omega⟩ ⟨by decide, by decide⟩ dX4_inLowestTerms_60 dX4_inLowestTerms_61 (by decide) (fun c60 => ?_) (fun c60 => ?_)
      · exfalso; omega
      · skip
        refine lv_lload hx hb dX4_inLowestTerms_64 (lv_at hl 0 rfl) ?_
        refine lv_lload hx hb dX4_inLowestTerms_66 (lv_at hl 4 rfl) ?_
        refine jv_ldivN hx hb ⟨by omega, by omega, by omega⟩ ⟨by omega, by omega, by omega⟩ dX4_inLowestTerms_68 ?_
        refine lv_goto (tgt := 74) hx hb dX4_inLowestTerms_69 (by decide) ?_
        exact hret (jL (v / a)) () _ _ _ _ (by unfold lowt; rw [hv.1, ha.1]) (hP.sub [] rfl) (hD.sub [] (by decide) rfl) hS dX4_inLowestTerms_74
    refine lv_iload hx hb dX4_inLowestTerms_45 (lv_at hl 2 rfl) ?_
    refine jv_if_ne (tgt := 54) hx hb ⟨by omega, by omega⟩ dX4_inLowestTerms_47 (by decide) (fun c47 => ?_) (fun c47 => ?_)
    · skip
      refine lv_lload_n hx hb dX4_inLowestTerms_54 rfl (lv_at hl 1 rfl) ?_
      exact J55 lw (by rw [if_neg c47]; exact ⟨rfl, by omega, by omega⟩) _ _ _ (hP.sub [] rfl) (hD.sub [] (by decide) rfl) hS (lv_sub hl [0, 1, 2, 3] rfl)
    · skip
      refine lv_lload_n hx hb dX4_inLowestTerms_50 rfl (lv_at hl 0 rfl) ?_
      refine lv_goto (tgt := 55) hx hb dX4_inLowestTerms_51 (by decide) ?_
      exact J55 u (by rw [if_pos c47]; exact ⟨rfl, hu⟩) _ _ _ (hP.sub [] rfl) (hD.sub [] (by decide) rfl) hS (lv_sub hl [0, 1, 2, 3] rfl)
  have L9 : ∀ (fuel : Nat) (a : Int) (b : Int) (k : Int), (gst u lw a b k) → (k ≤ 102) → ((202 : Int) - k < (fuel : Int)) → ∀ (H : Heap) (locs : List Loc) (ls : Array Slot), va_P D jcl [] H → va_D A [] → va_S A s.heap H locs → lv_has ls 12 [(0, .long (jL u)), (2, .long (jL lw)), (4, .int (jI part)), (5, .long (jL a)), (7, .long (jL b)), (9, .int (jI k))] → W p l e (jR 1 32) s m args below meth c H locs 0 0 Q (F0 m 9 ls []) := by
    intro fuel
    induction fuel with
    | zero =>
      intro a b k hg hk9 hfu
      exfalso; omega
    | succ fuel ihL9 =>
      intro a b k hg hk9 hfu H locs ls hP hD hS hl
      have hg0 := hg
      unfold gst at hg0
      have hk := gst_k hg
      refine lv_iload hx hb dX4_inLowestTerms_9 (lv_at hl 5 rfl) ?_
      refine jv_sipush hx hb (by decide) dX4_inLowestTerms_11 ?_
      refine jv_icmp_ge (tgt := 45) hx hb ⟨by omega, by omega⟩ ⟨by decide, by decide⟩ dX4_inLowestTerms_14 (by decide) (fun c14 => ?_) (fun c14 => ?_)
      · skip
        have hb0 : b = 0 := Classical.byContradiction fun q => by have := hk q; omega
        subst hb0
        have hend := gst_e hg
        have hend := And.intro hend.1 (And.intro hend.2 hg0.2.2.1)
        exact J45 a (hend) _ _ _ (hP.sub [] rfl) (hD.sub [] (by decide) rfl) hS (lv_sub hl [0, 1, 2, 3] rfl)
      · skip
        refine lv_lload hx hb dX4_inLowestTerms_17 (lv_at hl 4 rfl) ?_
        refine jv_lconst0 hx hb dX4_inLowestTerms_19 ?_
        refine jv_lcmp_eq (tgt := 45) hx hb ⟨by omega, by omega⟩ ⟨by decide, by decide⟩ dX4_inLowestTerms_20 dX4_inLowestTerms_21 (by decide) (fun c20 => ?_) (fun c20 => ?_)
        · skip
          subst c20
          have hend := gst_e hg
          have hend := And.intro hend.1 (And.intro hend.2 hg0.2.2.1)
          exact J45 a (hend) _ _ _ (hP.sub [] rfl) (hD.sub [] (by decide) rfl) hS (lv_sub hl [0, 1, 2, 3] rfl)
        · skip
          have hk2 := hk c20
          refine lv_lload hx hb dX4_inLowestTerms_24 (lv_at hl 3 rfl) ?_
          refine lv_lload hx hb dX4_inLowestTerms_26 (lv_at hl 4 rfl) ?_
          refine jv_lremN hx hb ⟨by omega, by omega, by omega⟩ ⟨by omega, by omega, by omega⟩ dX4_inLowestTerms_28 ?_
          refine jv_nmL (fun x_1 ex_1 => ?_)
          refine lv_lstore (lv' := [(10, .long (jL x_1)), (0, .long (jL u)), (2, .long (jL lw)), (4, .int (jI part)), (5, .long (jL a)), (7, .long (jL b)), (9, .int (jI k))]) hx hb dX4_inLowestTerms_29 hl (by decide) rfl (fun ls hl => ?_)
          refine lv_lload hx hb dX4_inLowestTerms_31 (lv_at hl 5 rfl) ?_
          refine lv_lstore (lv' := [(5, .long (jL b)), (10, .long (jL x_1)), (0, .long (jL u)), (2, .long (jL lw)), (4, .int (jI part)), (7, .long (jL b)), (9, .int (jI k))]) hx hb dX4_inLowestTerms_33 hl (by decide) rfl (fun ls hl => ?_)
          refine lv_lload hx hb dX4_inLowestTerms_35 (lv_at hl 1 rfl) ?_
          refine lv_lstore (lv' := [(7, .long (jL x_1)), (5, .long (jL b)), (10, .long (jL x_1)), (0, .long (jL u)), (2, .long (jL lw)), (4, .int (jI part)), (9, .int (jI k))]) hx hb dX4_inLowestTerms_37 hl (by decide) rfl (fun ls hl => ?_)
          refine jv_iinc (lv2 := [(9, .int (jI (k + 1))), (7, .long (jL x_1)), (5, .long (jL b)), (10, .long (jL x_1)), (0, .long (jL u)), (2, .long (jL lw)), (4, .int (jI part))]) hx hb dX4_inLowestTerms_39 hl (k := 6) rfl (by decide) rfl (fun ls hl => ?_)
          refine lv_goto (tgt := 9) hx hb dX4_inLowestTerms_42 (by decide) ?_
          exact ihL9 b x_1 (k + 1) (by rw [ex_1]; exact gst_s hg c20) (by have := gst_k hg c20; omega) (by omega) _ _ _ (hP.sub [] rfl) (hD.sub [] (by decide) rfl) hS (lv_sub hl [4, 5, 6, 2, 1, 0] rfl)
  refine lv_lload_n hx hb dX4_inLowestTerms_0 rfl (lv_at hl 0 rfl) ?_
  refine lv_lstore (lv' := [(5, .long (jL u)), (0, .long (jL u)), (2, .long (jL lw)), (4, .int (jI part))]) hx hb dX4_inLowestTerms_1 hl (by decide) rfl (fun ls hl => ?_)
  refine lv_lload_n hx hb dX4_inLowestTerms_3 rfl (lv_at hl 2 rfl) ?_
  refine lv_lstore (lv' := [(7, .long (jL lw)), (5, .long (jL u)), (0, .long (jL u)), (2, .long (jL lw)), (4, .int (jI part))]) hx hb dX4_inLowestTerms_4 hl (by decide) rfl (fun ls hl => ?_)
  refine jv_iconst hx hb dX4_inLowestTerms_6 ?_
  refine lv_istore (lv' := [(9, .int (jI 0)), (7, .long (jL lw)), (5, .long (jL u)), (0, .long (jL u)), (2, .long (jL lw)), (4, .int (jI part))]) hx hb dX4_inLowestTerms_7 hl (by decide) rfl (fun ls hl => ?_)
  exact L9 (((202 : Int) - 0).toNat + 1) u lw 0 (gst_0 hu ⟨by omega, by omega⟩) (by omega) (by omega) _ _ _ (hP.sub [] rfl) (hD.sub [] (by decide) rfl) hS (lv_sub hl [3, 4, 5, 2, 1, 0] rfl)
