set_option maxHeartbeats 4000000 in
set_option maxRecDepth 100000 in
/-- slotsOf -/
theorem tX5_slotsOf (l : Launch) (D : va_G) (g : ClassId × ClassId × ClassId) (hm : Nat) (md : Nat → Nat) (co : Int) (ly : Int) (nt : Int) (ns : Int) (nd : Int) (np : Int) (nq : Int) (tq : Int) (sn : Int → Int) (sl : Int → Int) (bo : Int → Int) (L : List jQ) (q : jQ) (sx9 : Int) (w9 : Int) (hbo : bo (4 * sx9) = q.2.2.1 ∧ bo (4 * sx9 + 1) = q.2.2.2.1 ∧ bo (4 * sx9 + 2) = q.2.2.2.2.1 ∧ bo (4 * sx9 + 3) = q.2.2.2.2.2 ∧ okQ q) (hs9 : 0 ≤ sx9 ∧ sx9 < 200) (hw9 : 1 ≤ w9 ∧ w9 ≤ 400) : jMi l D g yX5_slotsOf wsX5_slotsOf 1 24 [.ref hm, .int (jI sx9), .int (jI w9)] [(hm, .inr (5, [.int (jI co), .int (jI ly), .int (jI nt), .ref (md 3), .int (jI ns), .ref (md 5), .ref (md 6), .ref (md 7), .int (jI nd), .ref (md 9), .ref (md 10), .ref (md 11), .int (jI np), .ref (md 13), .ref (md 14), .ref (md 15), .ref (md 16), .ref (md 17), .ref (md 18), .ref (md 19), .ref (md 20), .int (jI nq), .ref (md 22), .ref (md 23), .ref (md 24), .ref (md 25), .ref (md 26), .int (jI tq), .ref (md 28), .ref (md 29), .ref (md 30)])), ((md 7), .inl (g.1, 800, .inl (aI bo)))] (S := Unit) (fun z (_ : Unit) => z = slN q w9) (fun _ => [(hm, .inr (5, [.int (jI co), .int (jI ly), .int (jI nt), .ref (md 3), .int (jI ns), .ref (md 5), .ref (md 6), .ref (md 7), .int (jI nd), .ref (md 9), .ref (md 10), .ref (md 11), .int (jI np), .ref (md 13), .ref (md 14), .ref (md 15), .ref (md 16), .ref (md 17), .ref (md 18), .ref (md 19), .ref (md 20), .int (jI nq), .ref (md 22), .ref (md 23), .ref (md 24), .ref (md 25), .ref (md 26), .int (jI tq), .ref (md 28), .ref (md 29), .ref (md 30)])), ((md 7), .inl (g.1, 800, .inl (aI bo)))]) := by
  refine jMi_of (cc := cX5_slotsOf) (maxL := 6) (by decide) rfl (Nat.le_of_ble_eq_true rfl) ?_
  intro p e s m args below meth c Q A hx hb hml hts hown hK hA hret ls hl hP hD
  have hS : va_S A s.heap s.heap [] := va_S.rf
  have hown : s.vm.findClass RX5 = some m.cls := hown
  have f20 := hts (.fieldLink RX5 20 "AntennaFillModel" "box" "[I") (by decide +kernel)
  have inX5 : ∀ w ∈ wsX50, w ∈ wsX5_slotsOf := by decide +kernel
  have hl : lv_has ls 6 [(0, .ref hm), (1, .int (jI sx9)), (2, .int (jI w9))] := hl
  have hok := hbo.2.2.2.2
  unfold okQ at hok
  have J55 : ∀ (br : Int), (br = min (q.2.2.2.2.1 - q.2.2.1) (q.2.2.2.2.2 - q.2.2.2.1)) → ∀ (H : Heap) (locs : List Loc) (ls : Array Slot), va_P D jcl [(hm, .inr (5, [.int (jI co), .int (jI ly), .int (jI nt), .ref (md 3), .int (jI ns), .ref (md 5), .ref (md 6), .ref (md 7), .int (jI nd), .ref (md 9), .ref (md 10), .ref (md 11), .int (jI np), .ref (md 13), .ref (md 14), .ref (md 15), .ref (md 16), .ref (md 17), .ref (md 18), .ref (md 19), .ref (md 20), .int (jI nq), .ref (md 22), .ref (md 23), .ref (md 24), .ref (md 25), .ref (md 26), .int (jI tq), .ref (md 28), .ref (md 29), .ref (md 30)])), ((md 7), .inl (g.1, 800, .inl (aI bo)))] H → va_D A [(hm, .inr (5, [.int (jI co), .int (jI ly), .int (jI nt), .ref (md 3), .int (jI ns), .ref (md 5), .ref (md 6), .ref (md 7), .int (jI nd), .ref (md 9), .ref (md 10), .ref (md 11), .int (jI np), .ref (md 13), .ref (md 14), .ref (md 15), .ref (md 16), .ref (md 17), .ref (md 18), .ref (md 19), .ref (md 20), .int (jI nq), .ref (md 22), .ref (md 23), .ref (md 24), .ref (md 25), .ref (md 26), .int (jI tq), .ref (md 28), .ref (md 29), .ref (md 30)])), ((md 7), .inl (g.1, 800, .inl (aI bo)))] → va_S A s.heap H locs → lv_has ls 6 [(0, .ref hm), (1, .int (jI sx9)), (2, .int (jI w9))] → W p l e (jR 1 24) s m args below meth c H locs 0 0 Q (F0 m 55 ls [.int (jI br)]) := by
    intro br hbr H locs ls hP hD hS hl
    refine lv_istore (lv' := [(5, .int (jI br)), (0, .ref hm), (1, .int (jI sx9)), (2, .int (jI w9))]) hx hb dX5_slotsOf_55 hl (by decide) rfl (fun ls hl => ?_)
    refine lv_iload hx hb dX5_slotsOf_57 (lv_at hl 0 rfl) ?_
    refine jv_iconst hx hb dX5_slotsOf_59 ?_
    refine lv_iload_n hx hb dX5_slotsOf_60 rfl (lv_at hl 3 rfl) ?_
    refine jv_imul hx hb dX5_slotsOf_61 ?_
    refine jv_iconst hx hb dX5_slotsOf_62 ?_
    refine jv_iadd hx hb dX5_slotsOf_63 ?_
    refine jv_icmp_ge (tgt := 71) hx hb ⟨by omega, by omega⟩ ⟨by omega, by omega⟩ dX5_slotsOf_64 (by decide) (fun c64 => ?_) (fun c64 => ?_)
    · skip
      refine lv_iload hx hb dX5_slotsOf_71 (lv_at hl 0 rfl) ?_
      refine lv_iload_n hx hb dX5_slotsOf_73 rfl (lv_at hl 3 rfl) ?_
      refine jv_isub hx hb dX5_slotsOf_74 ?_
      refine lv_iload_n hx hb dX5_slotsOf_75 rfl (lv_at hl 3 rfl) ?_
      refine jv_iconst hx hb dX5_slotsOf_76 ?_
      refine jv_iadd hx hb dX5_slotsOf_77 ?_
      refine jv_idivN hx hb ⟨by omega, by omega, by omega⟩ ⟨by omega, by omega, by omega⟩ dX5_slotsOf_78 ?_
      exact hret ((br - w9) / (w9 + 2)) () _ _ _ _ (by unfold slN; rw [← hbr, if_neg (by omega)]) (hP.sub [0, 1] rfl) (hD.sub [0, 1] (by decide) rfl) hS dX5_slotsOf_79
    · skip
      refine jv_iconst hx hb dX5_slotsOf_67 ?_
      refine lv_goto (tgt := 79) hx hb dX5_slotsOf_68 (by decide) ?_
      exact hret 0 () _ _ _ _ (by unfold slN; rw [← hbr, if_pos (by omega)]) (hP.sub [0, 1] rfl) (hD.sub [0, 1] (by decide) rfl) hS dX5_slotsOf_79
  refine lv_aload_n hx hb dX5_slotsOf_0 rfl (lv_at hl 0 rfl) ?_
  refine va_get (D := D) (ci := 5) (v := .ref (md 7)) (C := RX5) (T := TX5) (N := 31) hx hb hts inX5 hown hK hP 0 rfl rfl 7 (by decide) f20 (fun _ h9 => h9) rfl dX5_slotsOf_1 ?_
  refine jv_iconst hx hb dX5_slotsOf_4 ?_
  refine lv_iload_n hx hb dX5_slotsOf_5 rfl (lv_at hl 1 rfl) ?_
  refine jv_imul hx hb dX5_slotsOf_6 ?_
  refine jv_iconst hx hb dX5_slotsOf_7 ?_
  refine jv_iadd hx hb dX5_slotsOf_8 ?_
  refine jv_iald hx hb hK hP 1 0 rfl rfl (i := ((4 * sx9) + 2)) ⟨by omega, by omega⟩ (Nat.le_of_ble_eq_true rfl) dX5_slotsOf_9 ?_
  refine lv_aload_n hx hb dX5_slotsOf_10 rfl (lv_at hl 0 rfl) ?_
  refine va_get (D := D) (ci := 5) (v := .ref (md 7)) (C := RX5) (T := TX5) (N := 31) hx hb hts inX5 hown hK hP 0 rfl rfl 7 (by decide) f20 (fun _ h9 => h9) rfl dX5_slotsOf_11 ?_
  refine jv_iconst hx hb dX5_slotsOf_14 ?_
  refine lv_iload_n hx hb dX5_slotsOf_15 rfl (lv_at hl 1 rfl) ?_
  refine jv_imul hx hb dX5_slotsOf_16 ?_
  refine jv_iald hx hb hK hP 1 0 rfl rfl (i := (4 * sx9)) ⟨by omega, by omega⟩ (Nat.le_of_ble_eq_true rfl) dX5_slotsOf_17 ?_
  refine jv_isub hx hb dX5_slotsOf_18 ?_
  refine lv_istore_n (lv' := [(3, .int (jI ((bo ((4 * sx9) + 2)) - (bo (4 * sx9))))), (0, .ref hm), (1, .int (jI sx9)), (2, .int (jI w9))]) hx hb dX5_slotsOf_19 rfl hl (by decide) rfl (fun ls hl => ?_)
  refine lv_aload_n hx hb dX5_slotsOf_20 rfl (lv_at hl 1 rfl) ?_
  refine va_get (D := D) (ci := 5) (v := .ref (md 7)) (C := RX5) (T := TX5) (N := 31) hx hb hts inX5 hown hK hP 0 rfl rfl 7 (by decide) f20 (fun _ h9 => h9) rfl dX5_slotsOf_21 ?_
  refine jv_iconst hx hb dX5_slotsOf_24 ?_
  refine lv_iload_n hx hb dX5_slotsOf_25 rfl (lv_at hl 2 rfl) ?_
  refine jv_imul hx hb dX5_slotsOf_26 ?_
  refine jv_iconst hx hb dX5_slotsOf_27 ?_
  refine jv_iadd hx hb dX5_slotsOf_28 ?_
  refine jv_iald hx hb hK hP 1 0 rfl rfl (i := ((4 * sx9) + 3)) ⟨by omega, by omega⟩ (Nat.le_of_ble_eq_true rfl) dX5_slotsOf_29 ?_
  refine lv_aload_n hx hb dX5_slotsOf_30 rfl (lv_at hl 1 rfl) ?_
  refine va_get (D := D) (ci := 5) (v := .ref (md 7)) (C := RX5) (T := TX5) (N := 31) hx hb hts inX5 hown hK hP 0 rfl rfl 7 (by decide) f20 (fun _ h9 => h9) rfl dX5_slotsOf_31 ?_
  refine jv_iconst hx hb dX5_slotsOf_34 ?_
  refine lv_iload_n hx hb dX5_slotsOf_35 rfl (lv_at hl 2 rfl) ?_
  refine jv_imul hx hb dX5_slotsOf_36 ?_
  refine jv_iconst hx hb dX5_slotsOf_37 ?_
  refine jv_iadd hx hb dX5_slotsOf_38 ?_
  refine jv_iald hx hb hK hP 1 0 rfl rfl (i := ((4 * sx9) + 1)) ⟨by omega, by omega⟩ (Nat.le_of_ble_eq_true rfl) dX5_slotsOf_39 ?_
  refine jv_isub hx hb dX5_slotsOf_40 ?_
  refine lv_istore (lv' := [(4, .int (jI ((bo ((4 * sx9) + 3)) - (bo ((4 * sx9) + 1))))), (3, .int (jI ((bo ((4 * sx9) + 2)) - (bo (4 * sx9))))), (0, .ref hm), (1, .int (jI sx9)), (2, .int (jI w9))]) hx hb dX5_slotsOf_41 hl (by decide) rfl (fun ls hl => ?_)
  refine lv_iload_n hx hb dX5_slotsOf_43 rfl (lv_at hl 1 rfl) ?_
  refine lv_iload hx hb dX5_slotsOf_44 (lv_at hl 0 rfl) ?_
  refine jv_icmp_lt (tgt := 54) hx hb ⟨by omega, by omega⟩ ⟨by omega, by omega⟩ dX5_slotsOf_46 (by decide) (fun c46 => ?_) (fun c46 => ?_)
  · skip
    refine lv_iload_n hx hb dX5_slotsOf_54 rfl (lv_at hl 1 rfl) ?_
    exact J55 ((bo ((4 * sx9) + 2)) - (bo (4 * sx9))) (by omega) _ _ _ (hP.sub [0, 1] rfl) (hD.sub [0, 1] (by decide) rfl) hS (lv_sub hl [2, 3, 4] rfl)
  · skip
    refine lv_iload hx hb dX5_slotsOf_49 (lv_at hl 0 rfl) ?_
    refine lv_goto (tgt := 55) hx hb dX5_slotsOf_51 (by decide) ?_
    exact J55 ((bo ((4 * sx9) + 3)) - (bo ((4 * sx9) + 1))) (by omega) _ _ _ (hP.sub [0, 1] rfl) (hD.sub [0, 1] (by decide) rfl) hS (lv_sub hl [2, 3, 4] rfl)

set_option maxHeartbeats 4000000 in
set_option maxRecDepth 100000 in
/-- piecesOn -/
theorem tX5_piecesOn (l : Launch) (D : va_G) (g : ClassId × ClassId × ClassId) (hm : Nat) (md : Nat → Nat) (co : Int) (ly : Int) (nt : Int) (ns : Int) (nd : Int) (np : Int) (nq : Int) (tq : Int) (rl : Int → Int) (rx : Int → Int) (ry : Int → Int) (rs : Int → Int) (LP : List jQ) (layer : Int) (hmp : mpI rl rx ry rs nq LP) (hnq : nq ≤ 1500) (hr : rI layer) : jMi l D g yX5_piecesOn wsX5_piecesOn 1 24 [.ref hm, .int (jI layer)] [(hm, .inr (5, [.int (jI co), .int (jI ly), .int (jI nt), .ref (md 3), .int (jI ns), .ref (md 5), .ref (md 6), .ref (md 7), .int (jI nd), .ref (md 9), .ref (md 10), .ref (md 11), .int (jI np), .ref (md 13), .ref (md 14), .ref (md 15), .ref (md 16), .ref (md 17), .ref (md 18), .ref (md 19), .ref (md 20), .int (jI nq), .ref (md 22), .ref (md 23), .ref (md 24), .ref (md 25), .ref (md 26), .int (jI tq), .ref (md 28), .ref (md 29), .ref (md 30)])), ((md 22), .inl (g.1, 1500, .inl (aI rl))), ((md 23), .inl (g.1, 1500, .inl (aI rx))), ((md 24), .inl (g.1, 1500, .inl (aI ry))), ((md 25), .inl (g.1, 1500, .inl (aI rs)))] (S := Unit) (fun z (_ : Unit) => z = ((LP.filter (onL layer)).length : Int)) (fun _ => [(hm, .inr (5, [.int (jI co), .int (jI ly), .int (jI nt), .ref (md 3), .int (jI ns), .ref (md 5), .ref (md 6), .ref (md 7), .int (jI nd), .ref (md 9), .ref (md 10), .ref (md 11), .int (jI np), .ref (md 13), .ref (md 14), .ref (md 15), .ref (md 16), .ref (md 17), .ref (md 18), .ref (md 19), .ref (md 20), .int (jI nq), .ref (md 22), .ref (md 23), .ref (md 24), .ref (md 25), .ref (md 26), .int (jI tq), .ref (md 28), .ref (md 29), .ref (md 30)])), ((md 22), .inl (g.1, 1500, .inl (aI rl))), ((md 23), .inl (g.1, 1500, .inl (aI rx))), ((md 24), .inl (g.1, 1500, .inl (aI ry))), ((md 25), .inl (g.1, 1500, .inl (aI rs)))]) := by
  refine jMi_of (cc := cX5_piecesOn) (maxL := 4) (by decide) rfl (Nat.le_of_ble_eq_true rfl) ?_
  intro p e s m args below meth c Q A hx hb hml hts hown hK hA hret ls hl hP hD
  have hS : va_S A s.heap s.heap [] := va_S.rf
  have hown : s.vm.findClass RX5 = some m.cls := hown
  have f56 := hts (.fieldLink RX5 56 "AntennaFillModel" "pieceLayer" "[I") (by decide +kernel)
  have f165 := hts (.fieldLink RX5 165 "AntennaFillModel" "pieces" "I") (by decide +kernel)
  have inX5 : ∀ w ∈ wsX50, w ∈ wsX5_piecesOn := by decide +kernel
  have hl : lv_has ls 4 [(0, .ref hm), (1, .int (jI layer))] := hl
  have hlen3 := hmp.1
  have L4 : ∀ (fuel : Nat) (i : Int) (sm9 : Int), (0 ≤ i ∧ i ≤ nq) → (sm9 = (((pre LP i).filter (onL layer)).length : Int)) → (0 ≤ sm9 ∧ sm9 ≤ i) → (nq + 1 - i < (fuel : Int)) → ∀ (H : Heap) (locs : List Loc) (ls : Array Slot), va_P D jcl [(hm, .inr (5, [.int (jI co), .int (jI ly), .int (jI nt), .ref (md 3), .int (jI ns), .ref (md 5), .ref (md 6), .ref (md 7), .int (jI nd), .ref (md 9), .ref (md 10), .ref (md 11), .int (jI np), .ref (md 13), .ref (md 14), .ref (md 15), .ref (md 16), .ref (md 17), .ref (md 18), .ref (md 19), .ref (md 20), .int (jI nq), .ref (md 22), .ref (md 23), .ref (md 24), .ref (md 25), .ref (md 26), .int (jI tq), .ref (md 28), .ref (md 29), .ref (md 30)])), ((md 22), .inl (g.1, 1500, .inl (aI rl))), ((md 23), .inl (g.1, 1500, .inl (aI rx))), ((md 24), .inl (g.1, 1500, .inl (aI ry))), ((md 25), .inl (g.1, 1500, .inl (aI rs)))] H → va_D A [(hm, .inr (5, [.int (jI co), .int (jI ly), .int (jI nt), .ref (md 3), .int (jI ns), .ref (md 5), .ref (md 6), .ref (md 7), .int (jI nd), .ref (md 9), .ref (md 10), .ref (md 11), .int (jI np), .ref (md 13), .ref (md 14), .ref (md 15), .ref (md 16), .ref (md 17), .ref (md 18), .ref (md 19), .ref (md 20), .int (jI nq), .ref (md 22), .ref (md 23), .ref (md 24), .ref (md 25), .ref (md 26), .int (jI tq), .ref (md 28), .ref (md 29), .ref (md 30)])), ((md 22), .inl (g.1, 1500, .inl (aI rl))), ((md 23), .inl (g.1, 1500, .inl (aI rx))), ((md 24), .inl (g.1, 1500, .inl (aI ry))), ((md 25), .inl (g.1, 1500, .inl (aI rs)))] → va_S A s.heap H locs → lv_has ls 4 [(0, .ref hm), (1, .int (jI layer)), (2, .int (jI sm9)), (3, .int (jI i))] → W p l e (jR 1 24) s m args below meth c H locs 0 0 Q (F0 m 4 ls []) := by
    intro fuel
    induction fuel with
    | zero =>
      intro i sm9 hi hs hsb hfu
      exfalso; omega
    | succ fuel ihL4 =>
      intro i sm9 hi hs hsb hfu H locs ls hP hD hS hl
      refine lv_iload_n hx hb dX5_piecesOn_4 rfl (lv_at hl 3 rfl) ?_
      refine lv_aload_n hx hb dX5_piecesOn_5 rfl (lv_at hl 0 rfl) ?_
      refine va_get (D := D) (ci := 5) (v := .int (jI nq)) (C := RX5) (T := TX5) (N := 31) hx hb hts inX5 hown hK hP 0 rfl rfl 21 (by decide) f165 (fun _ h9 => h9) rfl dX5_piecesOn_6 ?_
      refine jv_icmp_ge (tgt := 36) hx hb ⟨by omega, by omega⟩ ⟨by omega, by omega⟩ dX5_piecesOn_9 (by decide) (fun c9 => ?_) (fun c9 => ?_)
      · skip
        refine lv_iload_n hx hb dX5_piecesOn_36 rfl (lv_at hl 2 rfl) ?_
        exact hret sm9 () _ _ _ _ (by rw [hs, pre_all (L := LP) (i := i) (by omega)]) (hP.sub [0, 1, 2, 3, 4] rfl) (hD.sub [0, 1, 2, 3, 4] (by decide) rfl) hS dX5_piecesOn_37
      · skip
        obtain ⟨q, hq, e1, e2, e3, e4, e5, hok⟩ := mp_at hmp (k := i) ⟨hi.1, by omega⟩
        unfold okQ at hok
        refine lv_iload_n hx hb dX5_piecesOn_12 rfl (lv_at hl 2 rfl) ?_
        refine lv_aload_n hx hb dX5_piecesOn_13 rfl (lv_at hl 0 rfl) ?_
        refine va_get (D := D) (ci := 5) (v := .ref (md 22)) (C := RX5) (T := TX5) (N := 31) hx hb hts inX5 hown hK hP 0 rfl rfl 22 (by decide) f56 (fun _ h9 => h9) rfl dX5_piecesOn_14 ?_
        refine lv_iload_n hx hb dX5_piecesOn_17 rfl (lv_at hl 3 rfl) ?_
        refine jv_iald hx hb hK hP 1 0 rfl rfl (i := i) ⟨by omega, by omega⟩ (Nat.le_of_ble_eq_true rfl) dX5_piecesOn_18 ?_
        refine lv_iload_n hx hb dX5_piecesOn_19 rfl (lv_at hl 1 rfl) ?_
        refine jv_icmp_ne (tgt := 27) hx hb ⟨by omega, by omega⟩ ⟨by omega, by omega⟩ dX5_piecesOn_20 (by decide) (fun c20 => ?_) (fun c20 => ?_)
        · skip
          refine jv_iconst hx hb dX5_piecesOn_27 ?_
          refine jv_iadd hx hb dX5_piecesOn_28 ?_
          refine lv_istore_n (lv' := [(2, .int (jI (sm9 + 0))), (0, .ref hm), (1, .int (jI layer)), (3, .int (jI i))]) hx hb dX5_piecesOn_29 rfl hl (by decide) rfl (fun ls hl => ?_)
          refine jv_iinc (lv2 := [(3, .int (jI (i + 1))), (2, .int (jI (sm9 + 0))), (0, .ref hm), (1, .int (jI layer))]) hx hb dX5_piecesOn_30 hl (k := 3) rfl (by decide) rfl (fun ls hl => ?_)
          refine lv_goto (tgt := 4) hx hb dX5_piecesOn_33 (by decide) ?_
          exact ihL4 (i + 1) (sm9 + 0) (by omega) (by first | (rw [flt_n _ hi.1 hq (onL_f (by omega))]; omega) | (rw [flt_s _ hi.1 hq (onL_t (by omega)), List.length_append, List.length_singleton]; omega)) (by omega) (by omega) _ _ _ (hP.sub [0, 1, 2, 3, 4] rfl) (hD.sub [0, 1, 2, 3, 4] (by decide) rfl) hS (lv_sub hl [2, 3, 1, 0] rfl)
        · skip
          refine jv_iconst hx hb dX5_piecesOn_23 ?_
          refine lv_goto (tgt := 28) hx hb dX5_piecesOn_24 (by decide) ?_
          refine jv_iadd hx hb dX5_piecesOn_28 ?_
          refine lv_istore_n (lv' := [(2, .int (jI (sm9 + 1))), (0, .ref hm), (1, .int (jI layer)), (3, .int (jI i))]) hx hb dX5_piecesOn_29 rfl hl (by decide) rfl (fun ls hl => ?_)
          refine jv_iinc (lv2 := [(3, .int (jI (i + 1))), (2, .int (jI (sm9 + 1))), (0, .ref hm), (1, .int (jI layer))]) hx hb dX5_piecesOn_30 hl (k := 3) rfl (by decide) rfl (fun ls hl => ?_)
          refine lv_goto (tgt := 4) hx hb dX5_piecesOn_33 (by decide) ?_
          exact ihL4 (i + 1) (sm9 + 1) (by omega) (by first | (rw [flt_n _ hi.1 hq (onL_f (by omega))]; omega) | (rw [flt_s _ hi.1 hq (onL_t (by omega)), List.length_append, List.length_singleton]; omega)) (by omega) (by omega) _ _ _ (hP.sub [0, 1, 2, 3, 4] rfl) (hD.sub [0, 1, 2, 3, 4] (by decide) rfl) hS (lv_sub hl [2, 3, 1, 0] rfl)
  refine jv_iconst hx hb dX5_piecesOn_0 ?_
  refine lv_istore_n (lv' := [(2, .int (jI 0)), (0, .ref hm), (1, .int (jI layer))]) hx hb dX5_piecesOn_1 rfl hl (by decide) rfl (fun ls hl => ?_)
  refine jv_iconst hx hb dX5_piecesOn_2 ?_
  refine lv_istore_n (lv' := [(3, .int (jI 0)), (2, .int (jI 0)), (0, .ref hm), (1, .int (jI layer))]) hx hb dX5_piecesOn_3 rfl hl (by decide) rfl (fun ls hl => ?_)
  exact L4 ((nq + 1 - 0).toNat + 1) 0 0 (by omega) (by rw [pre_0]; rfl) (by omega) (by omega) _ _ _ (hP.sub [0, 1, 2, 3, 4] rfl) (hD.sub [0, 1, 2, 3, 4] (by decide) rfl) hS (lv_sub hl [2, 3, 1, 0] rfl)

set_option maxHeartbeats 4000000 in
set_option maxRecDepth 100000 in
/-- thrown -/
theorem tX5_thrown (l : Launch) (D : va_G) (g : ClassId × ClassId × ClassId) (hm : Nat) (md : Nat → Nat) (co : Int) (ly : Int) (nt : Int) (ns : Int) (nd : Int) (np : Int) (nq : Int) (tq : Int)  : jMi l D g yX5_thrown wsX5_thrown 1 21 [.ref hm] [(hm, .inr (5, [.int (jI co), .int (jI ly), .int (jI nt), .ref (md 3), .int (jI ns), .ref (md 5), .ref (md 6), .ref (md 7), .int (jI nd), .ref (md 9), .ref (md 10), .ref (md 11), .int (jI np), .ref (md 13), .ref (md 14), .ref (md 15), .ref (md 16), .ref (md 17), .ref (md 18), .ref (md 19), .ref (md 20), .int (jI nq), .ref (md 22), .ref (md 23), .ref (md 24), .ref (md 25), .ref (md 26), .int (jI tq), .ref (md 28), .ref (md 29), .ref (md 30)]))] (S := Unit) (fun z (_ : Unit) => z = co) (fun _ => [(hm, .inr (5, [.int (jI co), .int (jI ly), .int (jI nt), .ref (md 3), .int (jI ns), .ref (md 5), .ref (md 6), .ref (md 7), .int (jI nd), .ref (md 9), .ref (md 10), .ref (md 11), .int (jI np), .ref (md 13), .ref (md 14), .ref (md 15), .ref (md 16), .ref (md 17), .ref (md 18), .ref (md 19), .ref (md 20), .int (jI nq), .ref (md 22), .ref (md 23), .ref (md 24), .ref (md 25), .ref (md 26), .int (jI tq), .ref (md 28), .ref (md 29), .ref (md 30)]))]) := by
  refine jMi_of (cc := cX5_thrown) (maxL := 1) (by decide) rfl (Nat.le_of_ble_eq_true rfl) ?_
  intro p e s m args below meth c Q A hx hb hml hts hown hK hA hret ls hl hP hD
  have hS : va_S A s.heap s.heap [] := va_S.rf
  have hown : s.vm.findClass RX5 = some m.cls := hown
  have f84 := hts (.fieldLink RX5 84 "AntennaFillModel" "code" "I") (by decide +kernel)
  have inX5 : ∀ w ∈ wsX50, w ∈ wsX5_thrown := by decide +kernel
  have hl : lv_has ls 1 [(0, .ref hm)] := hl
  refine lv_aload_n hx hb dX5_thrown_0 rfl (lv_at hl 0 rfl) ?_
  refine va_get (D := D) (ci := 5) (v := .int (jI co)) (C := RX5) (T := TX5) (N := 31) hx hb hts inX5 hown hK hP 0 rfl rfl 0 (by decide) f84 (fun _ h9 => h9) rfl dX5_thrown_1 ?_
  exact hret co () _ _ _ _ (rfl) (hP.sub [0] rfl) (hD.sub [0] (by decide) rfl) hS dX5_thrown_4

set_option maxHeartbeats 4000000 in
set_option maxRecDepth 100000 in
/-- slot -/
theorem tX5_slot (l : Launch) (D : va_G) (g : ClassId × ClassId × ClassId) (hm : Nat) (md : Nat → Nat) (co : Int) (ly : Int) (nt : Int) (ns : Int) (nd : Int) (np : Int) (nq : Int) (tq : Int) (sn : Int → Int) (sl : Int → Int) (bo : Int → Int) (L : List jQ) (layer : Int) (v9 : Int) (hms : msI sn sl bo ns L) (hns : ns ≤ 200) (hly : 1 ≤ ly ∧ ly ≤ 64) (hri : rI layer ∧ rL v9) : jMi l D g yX5_slot wsX5_slot 3 80 [.ref hm, .int (jI layer), .long (jL v9)] [(hm, .inr (5, [.int (jI co), .int (jI ly), .int (jI nt), .ref (md 3), .int (jI ns), .ref (md 5), .ref (md 6), .ref (md 7), .int (jI nd), .ref (md 9), .ref (md 10), .ref (md 11), .int (jI np), .ref (md 13), .ref (md 14), .ref (md 15), .ref (md 16), .ref (md 17), .ref (md 18), .ref (md 19), .ref (md 20), .int (jI nq), .ref (md 22), .ref (md 23), .ref (md 24), .ref (md 25), .ref (md 26), .int (jI tq), .ref (md 28), .ref (md 29), .ref (md 30)])), ((md 5), .inl (g.1, 200, .inl (aI sn))), ((md 6), .inl (g.1, 200, .inl (aI sl))), ((md 7), .inl (g.1, 800, .inl (aI bo)))] (S := Int) (fun z u => (u = 1 ∧ ¬ (0 ≤ layer ∧ layer < ly)) ∨ (u = 2 ∧ (0 ≤ layer ∧ layer < ly) ∧ ¬ (1 ≤ v9 ∧ v9 ≤ 400)) ∨ (u = 0 ∧ (0 ≤ layer ∧ layer < ly) ∧ (1 ≤ v9 ∧ v9 ≤ 400) ∧ z = lsum (fun q => slN q v9) (L.filter (onL layer)))) (fun u => [(hm, .inr (5, [.int (jI u), .int (jI ly), .int (jI nt), .ref (md 3), .int (jI ns), .ref (md 5), .ref (md 6), .ref (md 7), .int (jI nd), .ref (md 9), .ref (md 10), .ref (md 11), .int (jI np), .ref (md 13), .ref (md 14), .ref (md 15), .ref (md 16), .ref (md 17), .ref (md 18), .ref (md 19), .ref (md 20), .int (jI nq), .ref (md 22), .ref (md 23), .ref (md 24), .ref (md 25), .ref (md 26), .int (jI tq), .ref (md 28), .ref (md 29), .ref (md 30)])), ((md 5), .inl (g.1, 200, .inl (aI sn))), ((md 6), .inl (g.1, 200, .inl (aI sl))), ((md 7), .inl (g.1, 800, .inl (aI bo)))]) := by
  refine jMi_of (cc := cX5_slot) (maxL := 6) (by decide) rfl (Nat.le_of_ble_eq_true rfl) ?_
  intro p e s m args below meth c Q A hx hb hml hts hown hK hA hret ls hl hP hD
  have hS : va_S A s.heap s.heap [] := va_S.rf
  have hown : s.vm.findClass RX5 = some m.cls := hown
  have f17 := hts (.fieldLink RX5 17 "AntennaFillModel" "shapeLayer" "[I") (by decide +kernel)
  have f84 := hts (.fieldLink RX5 84 "AntennaFillModel" "code" "I") (by decide +kernel)
  have f102 := hts (.fieldLink RX5 102 "AntennaFillModel" "shapes" "I") (by decide +kernel)
  have inX5 : ∀ w ∈ wsX50, w ∈ wsX5_slot := by decide +kernel
  have k219 := hts (.constantLong RX5 219 (400)) (by decide +kernel)
  have hl : lv_has ls 6 [(0, .ref hm), (1, .int (jI layer)), (2, .long (jL v9))] := hl
  have hlen := hms.1
  have JC : ∀ (cv9 : Int), ((cv9 = 1 ∧ ¬ (0 ≤ layer ∧ layer < ly)) ∨ (cv9 = 2 ∧ (0 ≤ layer ∧ layer < ly) ∧ ¬ (1 ≤ v9 ∧ v9 ≤ 400)) ∨ (cv9 = 0 ∧ (0 ≤ layer ∧ layer < ly) ∧ (1 ≤ v9 ∧ v9 ≤ 400))) → ∀ (H : Heap) (locs : List Loc) (ls : Array Slot), va_P D jcl [(hm, .inr (5, [.int (jI co), .int (jI ly), .int (jI nt), .ref (md 3), .int (jI ns), .ref (md 5), .ref (md 6), .ref (md 7), .int (jI nd), .ref (md 9), .ref (md 10), .ref (md 11), .int (jI np), .ref (md 13), .ref (md 14), .ref (md 15), .ref (md 16), .ref (md 17), .ref (md 18), .ref (md 19), .ref (md 20), .int (jI nq), .ref (md 22), .ref (md 23), .ref (md 24), .ref (md 25), .ref (md 26), .int (jI tq), .ref (md 28), .ref (md 29), .ref (md 30)])), ((md 5), .inl (g.1, 200, .inl (aI sn))), ((md 6), .inl (g.1, 200, .inl (aI sl))), ((md 7), .inl (g.1, 800, .inl (aI bo)))] H → va_D A [(hm, .inr (5, [.int (jI co), .int (jI ly), .int (jI nt), .ref (md 3), .int (jI ns), .ref (md 5), .ref (md 6), .ref (md 7), .int (jI nd), .ref (md 9), .ref (md 10), .ref (md 11), .int (jI np), .ref (md 13), .ref (md 14), .ref (md 15), .ref (md 16), .ref (md 17), .ref (md 18), .ref (md 19), .ref (md 20), .int (jI nq), .ref (md 22), .ref (md 23), .ref (md 24), .ref (md 25), .ref (md 26), .int (jI tq), .ref (md 28), .ref (md 29), .ref (md 30)])), ((md 5), .inl (g.1, 200, .inl (aI sn))), ((md 6), .inl (g.1, 200, .inl (aI sl))), ((md 7), .inl (g.1, 800, .inl (aI bo)))] → va_S A s.heap H locs → lv_has ls 6 [(0, .ref hm), (1, .int (jI layer)), (2, .long (jL v9))] → W p l e (jR 3 80) s m args below meth c H locs 0 0 Q (F0 m 32 ls [.int (jI cv9), .ref hm]) := by
    intro cv9 hcv H locs ls hP hD hS hl
    have LS : ∀ (fuel : Nat) (i : Int) (sm9 : Int), (0 ≤ i ∧ i ≤ ns) → (sm9 = lsum (fun q => slN q v9) ((pre L i).filter (onL layer))) → (0 ≤ sm9 ∧ sm9 ≤ 1000 * i) → (ns + 1 - i < (fuel : Int)) → ∀ (H : Heap) (locs : List Loc) (ls : Array Slot), va_P D jcl [(hm, .inr (5, [.int (jI cv9), .int (jI ly), .int (jI nt), .ref (md 3), .int (jI ns), .ref (md 5), .ref (md 6), .ref (md 7), .int (jI nd), .ref (md 9), .ref (md 10), .ref (md 11), .int (jI np), .ref (md 13), .ref (md 14), .ref (md 15), .ref (md 16), .ref (md 17), .ref (md 18), .ref (md 19), .ref (md 20), .int (jI nq), .ref (md 22), .ref (md 23), .ref (md 24), .ref (md 25), .ref (md 26), .int (jI tq), .ref (md 28), .ref (md 29), .ref (md 30)])), ((md 5), .inl (g.1, 200, .inl (aI sn))), ((md 6), .inl (g.1, 200, .inl (aI sl))), ((md 7), .inl (g.1, 800, .inl (aI bo)))] H → va_D A [(hm, .inr (5, [.int (jI cv9), .int (jI ly), .int (jI nt), .ref (md 3), .int (jI ns), .ref (md 5), .ref (md 6), .ref (md 7), .int (jI nd), .ref (md 9), .ref (md 10), .ref (md 11), .int (jI np), .ref (md 13), .ref (md 14), .ref (md 15), .ref (md 16), .ref (md 17), .ref (md 18), .ref (md 19), .ref (md 20), .int (jI nq), .ref (md 22), .ref (md 23), .ref (md 24), .ref (md 25), .ref (md 26), .int (jI tq), .ref (md 28), .ref (md 29), .ref (md 30)])), ((md 5), .inl (g.1, 200, .inl (aI sn))), ((md 6), .inl (g.1, 200, .inl (aI sl))), ((md 7), .inl (g.1, 800, .inl (aI bo)))] → va_S A s.heap H locs → lv_has ls 6 [(0, .ref hm), (1, .int (jI layer)), (2, .long (jL v9)), (4, .int (jI sm9)), (5, .int (jI i))] → W p l e (jR 3 80) s m args below meth c H locs 0 0 Q (F0 m 41 ls []) := by
      intro fuel
      induction fuel with
      | zero =>
        intro i sm9 hi hs hsb hfu
        exfalso; omega
      | succ fuel ihLS =>
        intro i sm9 hi hs hsb hfu H locs ls hP hD hS hl
        refine lv_iload hx hb dX5_slot_41 (lv_at hl 4 rfl) ?_
        refine lv_aload_n hx hb dX5_slot_43 rfl (lv_at hl 0 rfl) ?_
        refine va_get (D := D) (ci := 5) (v := .int (jI ns)) (C := RX5) (T := TX5) (N := 31) hx hb hts inX5 hown hK hP 0 rfl rfl 4 (by decide) f102 (fun _ h9 => h9) rfl dX5_slot_44 ?_
        refine jv_icmp_ge (tgt := 91) hx hb ⟨by omega, by omega⟩ ⟨by omega, by omega⟩ dX5_slot_47 (by decide) (fun c47 => ?_) (fun c47 => ?_)
        · skip
          refine lv_iload hx hb dX5_slot_91 (lv_at hl 3 rfl) ?_
          exact hret sm9 cv9 _ _ _ _ (by
            rcases hcv with q9 | q9 | q9
            · exact Or.inl q9
            · exact Or.inr (Or.inl q9)
            · exact Or.inr (Or.inr ⟨q9.1, q9.2.1, q9.2.2, by rw [hs, pre_all (L := L) (i := i) (by omega)]⟩)) (hP.sub [0, 1, 2, 3] rfl) (hD.sub [0, 1, 2, 3] (by decide) rfl) hS dX5_slot_93
        · skip
          obtain ⟨q, hq, e0, e1, e2, e3, e4, e5, hok⟩ := ms_at hms (k := i) ⟨hi.1, by omega⟩
          have hok2 := hok
          unfold okQ at hok
          refine lv_aload_n hx hb dX5_slot_50 rfl (lv_at hl 0 rfl) ?_
          refine va_get (D := D) (ci := 5) (v := .int (jI cv9)) (C := RX5) (T := TX5) (N := 31) hx hb hts inX5 hown hK hP 0 rfl rfl 0 (by decide) f84 (fun _ h9 => h9) rfl dX5_slot_51 ?_
          refine jv_if_ne (tgt := 91) hx hb ⟨by omega, by omega⟩ dX5_slot_54 (by decide) (fun c54 => ?_) (fun c54 => ?_)
          · skip
            refine lv_iload hx hb dX5_slot_91 (lv_at hl 3 rfl) ?_
            exact hret sm9 cv9 _ _ _ _ (by
              rcases hcv with q9 | q9 | q9
              · exact Or.inl q9
              · exact Or.inr (Or.inl q9)
              · exact Or.inr (Or.inr ⟨q9.1, q9.2.1, q9.2.2, by rw [hs, pre_all (L := L) (i := i) (by omega)]⟩)) (hP.sub [0, 1, 2, 3] rfl) (hD.sub [0, 1, 2, 3] (by decide) rfl) hS dX5_slot_93
          · skip
            refine lv_iload hx hb dX5_slot_57 (lv_at hl 3 rfl) ?_
            refine lv_aload_n hx hb dX5_slot_59 rfl (lv_at hl 0 rfl) ?_
            refine va_get (D := D) (ci := 5) (v := .ref (md 6)) (C := RX5) (T := TX5) (N := 31) hx hb hts inX5 hown hK hP 0 rfl rfl 6 (by decide) f17 (fun _ h9 => h9) rfl dX5_slot_60 ?_
            refine lv_iload hx hb dX5_slot_63 (lv_at hl 4 rfl) ?_
            refine jv_iald hx hb hK hP 2 0 rfl rfl (i := i) ⟨by omega, by omega⟩ (Nat.le_of_ble_eq_true rfl) dX5_slot_65 ?_
            refine lv_iload_n hx hb dX5_slot_66 rfl (lv_at hl 1 rfl) ?_
            refine jv_icmp_ne (tgt := 81) hx hb ⟨by omega, by omega⟩ ⟨by omega, by omega⟩ dX5_slot_67 (by decide) (fun c67 => ?_) (fun c67 => ?_)
            · skip
              refine jv_iconst hx hb dX5_slot_81 ?_
              refine jv_iadd hx hb dX5_slot_82 ?_
              refine lv_istore (lv' := [(4, .int (jI (sm9 + 0))), (0, .ref hm), (1, .int (jI layer)), (2, .long (jL v9)), (5, .int (jI i))]) hx hb dX5_slot_83 hl (by decide) rfl (fun ls hl => ?_)
              refine jv_iinc (lv2 := [(5, .int (jI (i + 1))), (4, .int (jI (sm9 + 0))), (0, .ref hm), (1, .int (jI layer)), (2, .long (jL v9))]) hx hb dX5_slot_85 hl (k := 4) rfl (by decide) rfl (fun ls hl => ?_)
              refine lv_goto (tgt := 41) hx hb dX5_slot_88 (by decide) ?_
              exact ihLS (i + 1) (sm9 + 0) (by omega) (by first | (rw [flt_n _ hi.1 hq (onL_f (by omega))]; omega) | (rw [flt_s _ hi.1 hq (onL_t (by omega)), lsum_app, lsum_one]; omega)) (by omega) (by omega) _ _ _ (hP.sub [0, 1, 2, 3] rfl) (hD.sub [0, 1, 2, 3] (by decide) rfl) hS (lv_sub hl [2, 3, 4, 1, 0] rfl)
            · skip
              refine lv_aload_n hx hb dX5_slot_70 rfl (lv_at hl 0 rfl) ?_
              refine lv_iload hx hb dX5_slot_71 (lv_at hl 4 rfl) ?_
              refine lv_lload_n hx hb dX5_slot_73 rfl (lv_at hl 2 rfl) ?_
              refine jv_l2i hx hb dX5_slot_74 ?_
              refine jc_Vi (As := [.int (jI i), .int (jI v9)]) (rest := [.int (jI sm9)]) (wq := [((md 5), .inl (g.1, 200, .inl (aI sn))), ((md 6), .inl (g.1, 200, .inl (aI sl)))]) ⟨hx, hb, hml, hown, hts⟩ (tX5_slotsOf l D g hm md cv9 ly nt ns nd np nq tq sn sl bo L q i v9 (⟨e2, e3, e4, e5, hok2⟩) (⟨hi.1, by omega⟩) (by omega)) (cwV 2 hts gX5_slot_X5_slotsOf rfl rfl rfl (by decide +kernel) ⟨Nat.le_of_ble_eq_true rfl, Nat.le_of_ble_eq_true rfl⟩) hK hP hD hS hA [0, 3] [1, 2] rfl rfl (by decide) (by decide) (by decide) (va_recv hK hP (ci := 5) (q0 := 0) rfl rfl) rfl rfl hl.1 (Nat.le_of_ble_eq_true rfl) dX5_slot_75 ⟨Nat.le_of_ble_eq_true rfl, Nat.le_of_ble_eq_true rfl⟩ (fun sn9 u H locs hu hP hD hS => ?_)
              have hu : sn9 = slN q v9 := hu
              have hsn := hu
              have hP : va_P D jcl [((md 5), .inl (g.1, 200, .inl (aI sn))), ((md 6), .inl (g.1, 200, .inl (aI sl))), (hm, .inr (5, [.int (jI cv9), .int (jI ly), .int (jI nt), .ref (md 3), .int (jI ns), .ref (md 5), .ref (md 6), .ref (md 7), .int (jI nd), .ref (md 9), .ref (md 10), .ref (md 11), .int (jI np), .ref (md 13), .ref (md 14), .ref (md 15), .ref (md 16), .ref (md 17), .ref (md 18), .ref (md 19), .ref (md 20), .int (jI nq), .ref (md 22), .ref (md 23), .ref (md 24), .ref (md 25), .ref (md 26), .int (jI tq), .ref (md 28), .ref (md 29), .ref (md 30)])), ((md 7), .inl (g.1, 800, .inl (aI bo)))] H := hP
              have hD : va_D A [((md 5), .inl (g.1, 200, .inl (aI sn))), ((md 6), .inl (g.1, 200, .inl (aI sl))), (hm, .inr (5, [.int (jI cv9), .int (jI ly), .int (jI nt), .ref (md 3), .int (jI ns), .ref (md 5), .ref (md 6), .ref (md 7), .int (jI nd), .ref (md 9), .ref (md 10), .ref (md 11), .int (jI np), .ref (md 13), .ref (md 14), .ref (md 15), .ref (md 16), .ref (md 17), .ref (md 18), .ref (md 19), .ref (md 20), .int (jI nq), .ref (md 22), .ref (md 23), .ref (md 24), .ref (md 25), .ref (md 26), .int (jI tq), .ref (md 28), .ref (md 29), .ref (md 30)])), ((md 7), .inl (g.1, 800, .inl (aI bo)))] := hD
              have hnb := slN_bd hok2 (show 1 ≤ v9 by omega)
              rw [← hsn] at hnb
              refine lv_goto (tgt := 82) hx hb dX5_slot_78 (by decide) ?_
              refine jv_iadd hx hb dX5_slot_82 ?_
              refine lv_istore (lv' := [(4, .int (jI (sm9 + sn9))), (0, .ref hm), (1, .int (jI layer)), (2, .long (jL v9)), (5, .int (jI i))]) hx hb dX5_slot_83 hl (by decide) rfl (fun ls hl => ?_)
              refine jv_iinc (lv2 := [(5, .int (jI (i + 1))), (4, .int (jI (sm9 + sn9))), (0, .ref hm), (1, .int (jI layer)), (2, .long (jL v9))]) hx hb dX5_slot_85 hl (k := 4) rfl (by decide) rfl (fun ls hl => ?_)
              refine lv_goto (tgt := 41) hx hb dX5_slot_88 (by decide) ?_
              exact ihLS (i + 1) (sm9 + sn9) (by omega) (by first | (rw [flt_n _ hi.1 hq (onL_f (by omega))]; omega) | (rw [flt_s _ hi.1 hq (onL_t (by omega)), lsum_app, lsum_one]; omega)) (by omega) (by omega) _ _ _ (hP.sub [2, 0, 1, 3] rfl) (hD.sub [2, 0, 1, 3] (by decide) rfl) hS (lv_sub hl [2, 3, 4, 1, 0] rfl)
    refine va_put (D := D) (ci := 5) (v := .int (jI cv9)) (ty := .int) (C := RX5) (T := TX5) (N := 31) hx hb hts inX5 tyX5 tyX5_ok nmX5 hown hK hP hD hS 0 rfl rfl 0 (by decide) f84 (fun _ h9 => h9) rfl (by decide +kernel) rfl rfl (Nat.le_of_ble_eq_true rfl) dX5_slot_32 (fun H locs hP hD hS => ?_)
    have hP : va_P D jcl [(hm, .inr (5, [.int (jI cv9), .int (jI ly), .int (jI nt), .ref (md 3), .int (jI ns), .ref (md 5), .ref (md 6), .ref (md 7), .int (jI nd), .ref (md 9), .ref (md 10), .ref (md 11), .int (jI np), .ref (md 13), .ref (md 14), .ref (md 15), .ref (md 16), .ref (md 17), .ref (md 18), .ref (md 19), .ref (md 20), .int (jI nq), .ref (md 22), .ref (md 23), .ref (md 24), .ref (md 25), .ref (md 26), .int (jI tq), .ref (md 28), .ref (md 29), .ref (md 30)])), ((md 5), .inl (g.1, 200, .inl (aI sn))), ((md 6), .inl (g.1, 200, .inl (aI sl))), ((md 7), .inl (g.1, 800, .inl (aI bo)))] H := hP
    have hD : va_D A [(hm, .inr (5, [.int (jI cv9), .int (jI ly), .int (jI nt), .ref (md 3), .int (jI ns), .ref (md 5), .ref (md 6), .ref (md 7), .int (jI nd), .ref (md 9), .ref (md 10), .ref (md 11), .int (jI np), .ref (md 13), .ref (md 14), .ref (md 15), .ref (md 16), .ref (md 17), .ref (md 18), .ref (md 19), .ref (md 20), .int (jI nq), .ref (md 22), .ref (md 23), .ref (md 24), .ref (md 25), .ref (md 26), .int (jI tq), .ref (md 28), .ref (md 29), .ref (md 30)])), ((md 5), .inl (g.1, 200, .inl (aI sn))), ((md 6), .inl (g.1, 200, .inl (aI sl))), ((md 7), .inl (g.1, 800, .inl (aI bo)))] := hD
    refine jv_iconst hx hb dX5_slot_35 ?_
    refine lv_istore (lv' := [(4, .int (jI 0)), (0, .ref hm), (1, .int (jI layer)), (2, .long (jL v9))]) hx hb dX5_slot_36 hl (by decide) rfl (fun ls hl => ?_)
    refine jv_iconst hx hb dX5_slot_38 ?_
    refine lv_istore (lv' := [(5, .int (jI 0)), (4, .int (jI 0)), (0, .ref hm), (1, .int (jI layer)), (2, .long (jL v9))]) hx hb dX5_slot_39 hl (by decide) rfl (fun ls hl => ?_)
    exact LS ((ns + 1 - 0).toNat + 1) 0 0 (by omega) (by rw [pre_0]; rfl) (by omega) (by omega) _ _ _ (hP.sub [0, 1, 2, 3] rfl) (hD.sub [0, 1, 2, 3] (by decide) rfl) hS (lv_sub hl [2, 3, 4, 1, 0] rfl)
  refine lv_aload_n hx hb dX5_slot_0 rfl (lv_at hl 0 rfl) ?_
  refine lv_aload_n hx hb dX5_slot_1 rfl (lv_at hl 0 rfl) ?_
  refine lv_iload_n hx hb dX5_slot_2 rfl (lv_at hl 1 rfl) ?_
  refine jc_Vi (As := [.int (jI layer)]) (rest := [.ref hm]) (wq := [((md 5), .inl (g.1, 200, .inl (aI sn))), ((md 6), .inl (g.1, 200, .inl (aI sl))), ((md 7), .inl (g.1, 800, .inl (aI bo)))]) ⟨hx, hb, hml, hown, hts⟩ (tX5_isLayer l D g hm md co ly nt ns nd np nq tq layer (⟨⟨by omega, by omega⟩, by omega, by omega⟩)) (cwV 1 hts gX5_slot_X5_isLayer rfl rfl rfl (by decide +kernel) ⟨Nat.le_of_ble_eq_true rfl, Nat.le_of_ble_eq_true rfl⟩) hK hP hD hS hA [0] [1, 2, 3] rfl rfl (by decide) (by decide) (by decide) (va_recv hK hP (ci := 5) (q0 := 0) rfl rfl) rfl rfl hl.1 (Nat.le_of_ble_eq_true rfl) dX5_slot_3 ⟨Nat.le_of_ble_eq_true rfl, Nat.le_of_ble_eq_true rfl⟩ (fun zl9 u H locs hu hP hD hS => ?_)
  have hu : (zl9 = 1 ∧ (0 ≤ layer ∧ layer < ly)) ∨ (zl9 = 0 ∧ ¬ (0 ≤ layer ∧ layer < ly)) := hu
  have hzl := hu
  have hP : va_P D jcl [((md 5), .inl (g.1, 200, .inl (aI sn))), ((md 6), .inl (g.1, 200, .inl (aI sl))), ((md 7), .inl (g.1, 800, .inl (aI bo))), (hm, .inr (5, [.int (jI co), .int (jI ly), .int (jI nt), .ref (md 3), .int (jI ns), .ref (md 5), .ref (md 6), .ref (md 7), .int (jI nd), .ref (md 9), .ref (md 10), .ref (md 11), .int (jI np), .ref (md 13), .ref (md 14), .ref (md 15), .ref (md 16), .ref (md 17), .ref (md 18), .ref (md 19), .ref (md 20), .int (jI nq), .ref (md 22), .ref (md 23), .ref (md 24), .ref (md 25), .ref (md 26), .int (jI tq), .ref (md 28), .ref (md 29), .ref (md 30)]))] H := hP
  have hD : va_D A [((md 5), .inl (g.1, 200, .inl (aI sn))), ((md 6), .inl (g.1, 200, .inl (aI sl))), ((md 7), .inl (g.1, 800, .inl (aI bo))), (hm, .inr (5, [.int (jI co), .int (jI ly), .int (jI nt), .ref (md 3), .int (jI ns), .ref (md 5), .ref (md 6), .ref (md 7), .int (jI nd), .ref (md 9), .ref (md 10), .ref (md 11), .int (jI np), .ref (md 13), .ref (md 14), .ref (md 15), .ref (md 16), .ref (md 17), .ref (md 18), .ref (md 19), .ref (md 20), .int (jI nq), .ref (md 22), .ref (md 23), .ref (md 24), .ref (md 25), .ref (md 26), .int (jI tq), .ref (md 28), .ref (md 29), .ref (md 30)]))] := hD
  refine jv_if_ne (tgt := 13) hx hb ⟨by omega, by omega⟩ dX5_slot_6 (by decide) (fun c6 => ?_) (fun c6 => ?_)
  · skip
    refine lv_lload_n hx hb dX5_slot_13 rfl (lv_at hl 2 rfl) ?_
    refine jv_lconst1 hx hb dX5_slot_14 ?_
    refine jv_lcmp_lt (tgt := 27) hx hb ⟨by omega, by omega⟩ ⟨by decide, by decide⟩ dX5_slot_15 dX5_slot_16 (by decide) (fun c15 => ?_) (fun c15 => ?_)
    · skip
      refine jv_iconst hx hb dX5_slot_27 ?_
      refine lv_goto (tgt := 32) hx hb dX5_slot_28 (by decide) ?_
      exact JC 2 (by omega) _ _ _ (hP.sub [3, 0, 1, 2] rfl) (hD.sub [3, 0, 1, 2] (by decide) rfl) hS (lv_sub hl [0, 1, 2] rfl)
    · skip
      refine lv_lload_n hx hb dX5_slot_19 rfl (lv_at hl 2 rfl) ?_
      refine jv_ldc2 (n := 400) hx hb (by decide) hown k219 dX5_slot_20 ?_
      refine jv_lcmp_le (tgt := 31) hx hb ⟨by omega, by omega⟩ ⟨by decide, by decide⟩ dX5_slot_23 dX5_slot_24 (by decide) (fun c23 => ?_) (fun c23 => ?_)
      · skip
        refine jv_iconst hx hb dX5_slot_31 ?_
        exact JC 0 (by omega) _ _ _ (hP.sub [3, 0, 1, 2] rfl) (hD.sub [3, 0, 1, 2] (by decide) rfl) hS (lv_sub hl [0, 1, 2] rfl)
      · skip
        refine jv_iconst hx hb dX5_slot_27 ?_
        refine lv_goto (tgt := 32) hx hb dX5_slot_28 (by decide) ?_
        exact JC 2 (by omega) _ _ _ (hP.sub [3, 0, 1, 2] rfl) (hD.sub [3, 0, 1, 2] (by decide) rfl) hS (lv_sub hl [0, 1, 2] rfl)
  · skip
    refine jv_iconst hx hb dX5_slot_9 ?_
    refine lv_goto (tgt := 32) hx hb dX5_slot_10 (by decide) ?_
    exact JC 1 (by omega) _ _ _ (hP.sub [3, 0, 1, 2] rfl) (hD.sub [3, 0, 1, 2] (by decide) rfl) hS (lv_sub hl [0, 1, 2] rfl)

set_option maxHeartbeats 4000000 in
set_option maxRecDepth 100000 in
/-- slotAt -/
theorem tX5_slotAt (l : Launch) (D : va_G) (g : ClassId × ClassId × ClassId) (hm : Nat) (md : Nat → Nat) (co : Int) (ly : Int) (nt : Int) (ns : Int) (nd : Int) (np : Int) (nq : Int) (tq : Int) (sn : Int → Int) (sl : Int → Int) (bo : Int → Int) (L : List jQ) (layer : Int) (v9 : Int) (k9 : Int) (sd : Int) (hms : msI sn sl bo ns L) (hns : ns ≤ 200) (hly : 1 ≤ ly ∧ ly ≤ 64) (hri : rI layer ∧ rL v9 ∧ rI k9 ∧ rI sd) : jMi l D g yX5_slotAt wsX5_slotAt 3 80 [.ref hm, .int (jI layer), .long (jL v9), .int (jI k9), .int (jI sd)] [(hm, .inr (5, [.int (jI co), .int (jI ly), .int (jI nt), .ref (md 3), .int (jI ns), .ref (md 5), .ref (md 6), .ref (md 7), .int (jI nd), .ref (md 9), .ref (md 10), .ref (md 11), .int (jI np), .ref (md 13), .ref (md 14), .ref (md 15), .ref (md 16), .ref (md 17), .ref (md 18), .ref (md 19), .ref (md 20), .int (jI nq), .ref (md 22), .ref (md 23), .ref (md 24), .ref (md 25), .ref (md 26), .int (jI tq), .ref (md 28), .ref (md 29), .ref (md 30)])), ((md 5), .inl (g.1, 200, .inl (aI sn))), ((md 6), .inl (g.1, 200, .inl (aI sl))), ((md 7), .inl (g.1, 800, .inl (aI bo)))] (S := Int) (fun z u => (u = 1 ∧ ¬ ((0 ≤ layer ∧ layer < ly) ∧ (0 ≤ sd ∧ sd < 4))) ∨ (u = 2 ∧ ((0 ≤ layer ∧ layer < ly) ∧ (0 ≤ sd ∧ sd < 4)) ∧ ¬ (1 ≤ v9 ∧ v9 ≤ 400)) ∨ (u = 0 ∧ ((0 ≤ layer ∧ layer < ly) ∧ (0 ≤ sd ∧ sd < 4)) ∧ (1 ≤ v9 ∧ v9 ≤ 400) ∧ z = slAt v9 sd (L.filter (onL layer)) k9)) (fun u => [(hm, .inr (5, [.int (jI u), .int (jI ly), .int (jI nt), .ref (md 3), .int (jI ns), .ref (md 5), .ref (md 6), .ref (md 7), .int (jI nd), .ref (md 9), .ref (md 10), .ref (md 11), .int (jI np), .ref (md 13), .ref (md 14), .ref (md 15), .ref (md 16), .ref (md 17), .ref (md 18), .ref (md 19), .ref (md 20), .int (jI nq), .ref (md 22), .ref (md 23), .ref (md 24), .ref (md 25), .ref (md 26), .int (jI tq), .ref (md 28), .ref (md 29), .ref (md 30)])), ((md 5), .inl (g.1, 200, .inl (aI sn))), ((md 6), .inl (g.1, 200, .inl (aI sl))), ((md 7), .inl (g.1, 800, .inl (aI bo)))]) := by
  refine jMi_of (cc := cX5_slotAt) (maxL := 13) (by decide) rfl (Nat.le_of_ble_eq_true rfl) ?_
  intro p e s m args below meth c Q A hx hb hml hts hown hK hA hret ls hl hP hD
  have hS : va_S A s.heap s.heap [] := va_S.rf
  have hown : s.vm.findClass RX5 = some m.cls := hown
  have f17 := hts (.fieldLink RX5 17 "AntennaFillModel" "shapeLayer" "[I") (by decide +kernel)
  have f20 := hts (.fieldLink RX5 20 "AntennaFillModel" "box" "[I") (by decide +kernel)
  have f84 := hts (.fieldLink RX5 84 "AntennaFillModel" "code" "I") (by decide +kernel)
  have f102 := hts (.fieldLink RX5 102 "AntennaFillModel" "shapes" "I") (by decide +kernel)
  have inX5 : ∀ w ∈ wsX50, w ∈ wsX5_slotAt := by decide +kernel
  have k219 := hts (.constantLong RX5 219 (400)) (by decide +kernel)
  have hl : lv_has ls 13 [(0, .ref hm), (1, .int (jI layer)), (2, .long (jL v9)), (4, .int (jI k9)), (5, .int (jI sd))] := hl
  have hlen := hms.1
  have JC : ∀ (cv9 : Int), ((cv9 = 1 ∧ ¬ ((0 ≤ layer ∧ layer < ly) ∧ (0 ≤ sd ∧ sd < 4))) ∨ (cv9 = 2 ∧ ((0 ≤ layer ∧ layer < ly) ∧ (0 ≤ sd ∧ sd < 4)) ∧ ¬ (1 ≤ v9 ∧ v9 ≤ 400)) ∨ (cv9 = 0 ∧ ((0 ≤ layer ∧ layer < ly) ∧ (0 ≤ sd ∧ sd < 4)) ∧ (1 ≤ v9 ∧ v9 ≤ 400))) → ∀ (H : Heap) (locs : List Loc) (ls : Array Slot), va_P D jcl [(hm, .inr (5, [.int (jI co), .int (jI ly), .int (jI nt), .ref (md 3), .int (jI ns), .ref (md 5), .ref (md 6), .ref (md 7), .int (jI nd), .ref (md 9), .ref (md 10), .ref (md 11), .int (jI np), .ref (md 13), .ref (md 14), .ref (md 15), .ref (md 16), .ref (md 17), .ref (md 18), .ref (md 19), .ref (md 20), .int (jI nq), .ref (md 22), .ref (md 23), .ref (md 24), .ref (md 25), .ref (md 26), .int (jI tq), .ref (md 28), .ref (md 29), .ref (md 30)])), ((md 5), .inl (g.1, 200, .inl (aI sn))), ((md 6), .inl (g.1, 200, .inl (aI sl))), ((md 7), .inl (g.1, 800, .inl (aI bo)))] H → va_D A [(hm, .inr (5, [.int (jI co), .int (jI ly), .int (jI nt), .ref (md 3), .int (jI ns), .ref (md 5), .ref (md 6), .ref (md 7), .int (jI nd), .ref (md 9), .ref (md 10), .ref (md 11), .int (jI np), .ref (md 13), .ref (md 14), .ref (md 15), .ref (md 16), .ref (md 17), .ref (md 18), .ref (md 19), .ref (md 20), .int (jI nq), .ref (md 22), .ref (md 23), .ref (md 24), .ref (md 25), .ref (md 26), .int (jI tq), .ref (md 28), .ref (md 29), .ref (md 30)])), ((md 5), .inl (g.1, 200, .inl (aI sn))), ((md 6), .inl (g.1, 200, .inl (aI sl))), ((md 7), .inl (g.1, 800, .inl (aI bo)))] → va_S A s.heap H locs → lv_has ls 13 [(0, .ref hm), (1, .int (jI layer)), (2, .long (jL v9)), (4, .int (jI k9)), (5, .int (jI sd))] → W p l e (jR 3 80) s m args below meth c H locs 0 0 Q (F0 m 43 ls [.int (jI cv9), .ref hm]) := by
    intro cv9 hcv H locs ls hP hD hS hl
    have LS : ∀ (fuel : Nat) (i : Int) (lf : Int), (0 ≤ i ∧ i ≤ ns) → (-2147483648 ≤ lf ∧ lf ≤ 2147483647 ∧ (0 ≤ k9 → 0 ≤ lf)) → (slAt v9 sd (L.filter (onL layer)) k9 = slAt v9 sd ((L.drop (Int.toNat i)).filter (onL layer)) lf) → (ns + 1 - i < (fuel : Int)) → ∀ (H : Heap) (locs : List Loc) (ls : Array Slot), va_P D jcl [(hm, .inr (5, [.int (jI cv9), .int (jI ly), .int (jI nt), .ref (md 3), .int (jI ns), .ref (md 5), .ref (md 6), .ref (md 7), .int (jI nd), .ref (md 9), .ref (md 10), .ref (md 11), .int (jI np), .ref (md 13), .ref (md 14), .ref (md 15), .ref (md 16), .ref (md 17), .ref (md 18), .ref (md 19), .ref (md 20), .int (jI nq), .ref (md 22), .ref (md 23), .ref (md 24), .ref (md 25), .ref (md 26), .int (jI tq), .ref (md 28), .ref (md 29), .ref (md 30)])), ((md 5), .inl (g.1, 200, .inl (aI sn))), ((md 6), .inl (g.1, 200, .inl (aI sl))), ((md 7), .inl (g.1, 800, .inl (aI bo)))] H → va_D A [(hm, .inr (5, [.int (jI cv9), .int (jI ly), .int (jI nt), .ref (md 3), .int (jI ns), .ref (md 5), .ref (md 6), .ref (md 7), .int (jI nd), .ref (md 9), .ref (md 10), .ref (md 11), .int (jI np), .ref (md 13), .ref (md 14), .ref (md 15), .ref (md 16), .ref (md 17), .ref (md 18), .ref (md 19), .ref (md 20), .int (jI nq), .ref (md 22), .ref (md 23), .ref (md 24), .ref (md 25), .ref (md 26), .int (jI tq), .ref (md 28), .ref (md 29), .ref (md 30)])), ((md 5), .inl (g.1, 200, .inl (aI sn))), ((md 6), .inl (g.1, 200, .inl (aI sl))), ((md 7), .inl (g.1, 800, .inl (aI bo)))] → va_S A s.heap H locs → lv_has ls 13 [(0, .ref hm), (1, .int (jI layer)), (2, .long (jL v9)), (4, .int (jI k9)), (5, .int (jI sd)), (6, .int (jI v9)), (7, .int (jI lf)), (8, .int (jI i))] → W p l e (jR 3 80) s m args below meth c H locs 0 0 Q (F0 m 57 ls []) := by
      intro fuel
      induction fuel with
      | zero =>
        intro i lf hi hlf hs hfu
        exfalso; omega
      | succ fuel ihLS =>
        intro i lf hi hlf hs hfu H locs ls hP hD hS hl
        refine lv_iload hx hb dX5_slotAt_57 (lv_at hl 7 rfl) ?_
        refine lv_aload_n hx hb dX5_slotAt_59 rfl (lv_at hl 0 rfl) ?_
        refine va_get (D := D) (ci := 5) (v := .int (jI ns)) (C := RX5) (T := TX5) (N := 31) hx hb hts inX5 hown hK hP 0 rfl rfl 4 (by decide) f102 (fun _ h9 => h9) rfl dX5_slotAt_60 ?_
        refine jv_icmp_ge (tgt := 348) hx hb ⟨by omega, by omega⟩ ⟨by omega, by omega⟩ dX5_slotAt_63 (by decide) (fun c63 => ?_) (fun c63 => ?_)
        · skip
          refine lv_aload_n hx hb dX5_slotAt_348 rfl (lv_at hl 0 rfl) ?_
          refine va_get (D := D) (ci := 5) (v := .int (jI cv9)) (C := RX5) (T := TX5) (N := 31) hx hb hts inX5 hown hK hP 0 rfl rfl 0 (by decide) f84 (fun _ h9 => h9) rfl dX5_slotAt_349 ?_
          refine jv_if_le (tgt := 359) hx hb ⟨by omega, by omega⟩ dX5_slotAt_352 (by decide) (fun c352 => ?_) (fun c352 => ?_)
          · skip
            refine jv_iconst hx hb dX5_slotAt_359 ?_
            exact hret (-1) cv9 _ _ _ _ (by
              refine Or.inr (Or.inr ⟨by omega, by omega, by omega, ?_⟩)
              rw [hs]
              first
              | (rw [drop_all (by omega)]; rfl)
              | (rw [← hs, slAt_neg (by omega)])) (hP.sub [0, 1, 2, 3] rfl) (hD.sub [0, 1, 2, 3] (by decide) rfl) hS dX5_slotAt_360
          · skip
            refine jv_iconst hx hb dX5_slotAt_355 ?_
            refine lv_goto (tgt := 360) hx hb dX5_slotAt_356 (by decide) ?_
            exact hret 0 cv9 _ _ _ _ (by
              rcases hcv with q9 | q9 | q9
              · exact Or.inl q9
              · exact Or.inr (Or.inl q9)
              · exfalso; omega) (hP.sub [0, 1, 2, 3] rfl) (hD.sub [0, 1, 2, 3] (by decide) rfl) hS dX5_slotAt_360
        · skip
          refine lv_aload_n hx hb dX5_slotAt_66 rfl (lv_at hl 0 rfl) ?_
          refine va_get (D := D) (ci := 5) (v := .int (jI cv9)) (C := RX5) (T := TX5) (N := 31) hx hb hts inX5 hown hK hP 0 rfl rfl 0 (by decide) f84 (fun _ h9 => h9) rfl dX5_slotAt_67 ?_
          refine jv_if_ne (tgt := 348) hx hb ⟨by omega, by omega⟩ dX5_slotAt_70 (by decide) (fun c70 => ?_) (fun c70 => ?_)
          · skip
            refine lv_aload_n hx hb dX5_slotAt_348 rfl (lv_at hl 0 rfl) ?_
            refine va_get (D := D) (ci := 5) (v := .int (jI cv9)) (C := RX5) (T := TX5) (N := 31) hx hb hts inX5 hown hK hP 0 rfl rfl 0 (by decide) f84 (fun _ h9 => h9) rfl dX5_slotAt_349 ?_
            refine jv_if_le (tgt := 359) hx hb ⟨by omega, by omega⟩ dX5_slotAt_352 (by decide) (fun c352 => ?_) (fun c352 => ?_)
            · skip
              refine jv_iconst hx hb dX5_slotAt_359 ?_
              exact hret (-1) cv9 _ _ _ _ (by
                refine Or.inr (Or.inr ⟨by omega, by omega, by omega, ?_⟩)
                rw [hs]
                first
                | (rw [drop_all (by omega)]; rfl)
                | (rw [← hs, slAt_neg (by omega)])) (hP.sub [0, 1, 2, 3] rfl) (hD.sub [0, 1, 2, 3] (by decide) rfl) hS dX5_slotAt_360
            · skip
              refine jv_iconst hx hb dX5_slotAt_355 ?_
              refine lv_goto (tgt := 360) hx hb dX5_slotAt_356 (by decide) ?_
              exact hret 0 cv9 _ _ _ _ (by
                rcases hcv with q9 | q9 | q9
                · exact Or.inl q9
                · exact Or.inr (Or.inl q9)
                · exfalso; omega) (hP.sub [0, 1, 2, 3] rfl) (hD.sub [0, 1, 2, 3] (by decide) rfl) hS dX5_slotAt_360
          · skip
            refine lv_iload hx hb dX5_slotAt_73 (lv_at hl 3 rfl) ?_
            refine jv_if_lt (tgt := 348) hx hb ⟨by omega, by omega⟩ dX5_slotAt_75 (by decide) (fun c75 => ?_) (fun c75 => ?_)
            · skip
              refine lv_aload_n hx hb dX5_slotAt_348 rfl (lv_at hl 0 rfl) ?_
              refine va_get (D := D) (ci := 5) (v := .int (jI cv9)) (C := RX5) (T := TX5) (N := 31) hx hb hts inX5 hown hK hP 0 rfl rfl 0 (by decide) f84 (fun _ h9 => h9) rfl dX5_slotAt_349 ?_
              refine jv_if_le (tgt := 359) hx hb ⟨by omega, by omega⟩ dX5_slotAt_352 (by decide) (fun c352 => ?_) (fun c352 => ?_)
              · skip
                refine jv_iconst hx hb dX5_slotAt_359 ?_
                exact hret (-1) cv9 _ _ _ _ (by
                  refine Or.inr (Or.inr ⟨by omega, by omega, by omega, ?_⟩)
                  rw [hs]
                  first
                  | (rw [drop_all (by omega)]; rfl)
                  | (rw [← hs, slAt_neg (by omega)])) (hP.sub [0, 1, 2, 3] rfl) (hD.sub [0, 1, 2, 3] (by decide) rfl) hS dX5_slotAt_360
              · skip
                refine jv_iconst hx hb dX5_slotAt_355 ?_
                refine lv_goto (tgt := 360) hx hb dX5_slotAt_356 (by decide) ?_
                exact hret 0 cv9 _ _ _ _ (by
                  rcases hcv with q9 | q9 | q9
                  · exact Or.inl q9
                  · exact Or.inr (Or.inl q9)
                  · exfalso; omega) (hP.sub [0, 1, 2, 3] rfl) (hD.sub [0, 1, 2, 3] (by decide) rfl) hS dX5_slotAt_360
            · skip
              obtain ⟨q, hq, e0, e1, e2, e3, e4, e5, hok⟩ := ms_at hms (k := i) ⟨hi.1, by omega⟩
              have hok2 := hok
              unfold okQ at hok
              refine lv_aload_n hx hb dX5_slotAt_78 rfl (lv_at hl 0 rfl) ?_
              refine va_get (D := D) (ci := 5) (v := .ref (md 6)) (C := RX5) (T := TX5) (N := 31) hx hb hts inX5 hown hK hP 0 rfl rfl 6 (by decide) f17 (fun _ h9 => h9) rfl dX5_slotAt_79 ?_
              refine lv_iload hx hb dX5_slotAt_82 (lv_at hl 7 rfl) ?_
              refine jv_iald hx hb hK hP 2 0 rfl rfl (i := i) ⟨by omega, by omega⟩ (Nat.le_of_ble_eq_true rfl) dX5_slotAt_84 ?_
              refine lv_iload_n hx hb dX5_slotAt_85 rfl (lv_at hl 1 rfl) ?_
              refine jv_icmp_ne (tgt := 100) hx hb ⟨by omega, by omega⟩ ⟨by omega, by omega⟩ dX5_slotAt_86 (by decide) (fun c86 => ?_) (fun c86 => ?_)
              · skip
                refine jv_iconst hx hb dX5_slotAt_100 ?_
                refine lv_istore (lv' := [(9, .int (jI 0)), (0, .ref hm), (1, .int (jI layer)), (2, .long (jL v9)), (4, .int (jI k9)), (5, .int (jI sd)), (6, .int (jI v9)), (7, .int (jI lf)), (8, .int (jI i))]) hx hb dX5_slotAt_101 hl (by decide) rfl (fun ls hl => ?_)
                refine lv_iload hx hb dX5_slotAt_103 (lv_at hl 7 rfl) ?_
                refine lv_iload hx hb dX5_slotAt_105 (lv_at hl 0 rfl) ?_
                refine jv_icmp_ge (tgt := 335) hx hb ⟨by omega, by omega⟩ ⟨by decide, by decide⟩ dX5_slotAt_107 (by decide) (fun c107 => ?_) (fun c107 => ?_)
                · skip
                  refine lv_iload hx hb dX5_slotAt_335 (lv_at hl 7 rfl) ?_
                  refine lv_iload hx hb dX5_slotAt_337 (lv_at hl 0 rfl) ?_
                  refine jv_isub hx hb dX5_slotAt_339 ?_
                  refine lv_istore (lv' := [(7, .int (jI (lf - 0))), (9, .int (jI 0)), (0, .ref hm), (1, .int (jI layer)), (2, .long (jL v9)), (4, .int (jI k9)), (5, .int (jI sd)), (6, .int (jI v9)), (8, .int (jI i))]) hx hb dX5_slotAt_340 hl (by decide) rfl (fun ls hl => ?_)
                  refine jv_iinc (lv2 := [(8, .int (jI (i + 1))), (7, .int (jI (lf - 0))), (9, .int (jI 0)), (0, .ref hm), (1, .int (jI layer)), (2, .long (jL v9)), (4, .int (jI k9)), (5, .int (jI sd)), (6, .int (jI v9))]) hx hb dX5_slotAt_342 hl (k := 8) rfl (by decide) rfl (fun ls hl => ?_)
                  refine lv_goto (tgt := 57) hx hb dX5_slotAt_345 (by decide) ?_
                  exact ihLS (i + 1) (lf - 0) (by omega) (by omega) (by first | (rw [hs, slAt_n hi.1 hq (by omega), Int.sub_zero]) | (rw [hs, slAt_s hi.1 hq (by omega) (by omega) (by omega), ← hsn])) (by omega) _ _ _ (hP.sub [0, 1, 2, 3] rfl) (hD.sub [0, 1, 2, 3] (by decide) rfl) hS (lv_sub hl [3, 4, 5, 6, 7, 8, 1, 0] rfl)
                · skip
                  have hkb := (slN_bd hok2 (show 1 ≤ v9 by omega)).2.2 lf (by omega) (by omega)
                  have hk0 : 0 ≤ lf * (v9 + 2) := Int.mul_nonneg (by omega) (by omega)
                  refine lv_aload_n hx hb dX5_slotAt_110 rfl (lv_at hl 1 rfl) ?_
                  refine va_get (D := D) (ci := 5) (v := .ref (md 7)) (C := RX5) (T := TX5) (N := 31) hx hb hts inX5 hown hK hP 0 rfl rfl 7 (by decide) f20 (fun _ h9 => h9) rfl dX5_slotAt_111 ?_
                  refine jv_iconst hx hb dX5_slotAt_114 ?_
                  refine lv_iload hx hb dX5_slotAt_115 (lv_at hl 8 rfl) ?_
                  refine jv_imul hx hb dX5_slotAt_117 ?_
                  refine jv_iconst hx hb dX5_slotAt_118 ?_
                  refine jv_iadd hx hb dX5_slotAt_119 ?_
                  refine jv_iald hx hb hK hP 3 0 rfl rfl (i := ((4 * i) + 2)) ⟨by omega, by omega⟩ (Nat.le_of_ble_eq_true rfl) dX5_slotAt_120 ?_
                  refine lv_aload_n hx hb dX5_slotAt_121 rfl (lv_at hl 1 rfl) ?_
                  refine va_get (D := D) (ci := 5) (v := .ref (md 7)) (C := RX5) (T := TX5) (N := 31) hx hb hts inX5 hown hK hP 0 rfl rfl 7 (by decide) f20 (fun _ h9 => h9) rfl dX5_slotAt_122 ?_
                  refine jv_iconst hx hb dX5_slotAt_125 ?_
                  refine lv_iload hx hb dX5_slotAt_126 (lv_at hl 8 rfl) ?_
                  refine jv_imul hx hb dX5_slotAt_128 ?_
                  refine jv_iald hx hb hK hP 3 0 rfl rfl (i := (4 * i)) ⟨by omega, by omega⟩ (Nat.le_of_ble_eq_true rfl) dX5_slotAt_129 ?_
                  refine jv_isub hx hb dX5_slotAt_130 ?_
                  refine lv_aload_n hx hb dX5_slotAt_131 rfl (lv_at hl 1 rfl) ?_
                  refine va_get (D := D) (ci := 5) (v := .ref (md 7)) (C := RX5) (T := TX5) (N := 31) hx hb hts inX5 hown hK hP 0 rfl rfl 7 (by decide) f20 (fun _ h9 => h9) rfl dX5_slotAt_132 ?_
                  refine jv_iconst hx hb dX5_slotAt_135 ?_
                  refine lv_iload hx hb dX5_slotAt_136 (lv_at hl 8 rfl) ?_
                  refine jv_imul hx hb dX5_slotAt_138 ?_
                  refine jv_iconst hx hb dX5_slotAt_139 ?_
                  refine jv_iadd hx hb dX5_slotAt_140 ?_
                  refine jv_iald hx hb hK hP 3 0 rfl rfl (i := ((4 * i) + 3)) ⟨by omega, by omega⟩ (Nat.le_of_ble_eq_true rfl) dX5_slotAt_141 ?_
                  refine lv_aload_n hx hb dX5_slotAt_142 rfl (lv_at hl 1 rfl) ?_
                  refine va_get (D := D) (ci := 5) (v := .ref (md 7)) (C := RX5) (T := TX5) (N := 31) hx hb hts inX5 hown hK hP 0 rfl rfl 7 (by decide) f20 (fun _ h9 => h9) rfl dX5_slotAt_143 ?_
                  refine jv_iconst hx hb dX5_slotAt_146 ?_
                  refine lv_iload hx hb dX5_slotAt_147 (lv_at hl 8 rfl) ?_
                  refine jv_imul hx hb dX5_slotAt_149 ?_
                  refine jv_iconst hx hb dX5_slotAt_150 ?_
                  refine jv_iadd hx hb dX5_slotAt_151 ?_
                  refine jv_iald hx hb hK hP 3 0 rfl rfl (i := ((4 * i) + 1)) ⟨by omega, by omega⟩ (Nat.le_of_ble_eq_true rfl) dX5_slotAt_152 ?_
                  refine jv_isub hx hb dX5_slotAt_153 ?_
                  refine jv_icmp_lt (tgt := 161) hx hb ⟨by omega, by omega⟩ ⟨by omega, by omega⟩ dX5_slotAt_154 (by decide) (fun c154 => ?_) (fun c154 => ?_)
                  · skip
                    refine jv_iconst hx hb dX5_slotAt_161 ?_
                    refine lv_istore (lv' := [(10, .int (jI 0)), (9, .int (jI 0)), (0, .ref hm), (1, .int (jI layer)), (2, .long (jL v9)), (4, .int (jI k9)), (5, .int (jI sd)), (6, .int (jI v9)), (7, .int (jI lf)), (8, .int (jI i))]) hx hb dX5_slotAt_162 hl (by decide) rfl (fun ls hl => ?_)
                    refine lv_iload hx hb dX5_slotAt_164 (lv_at hl 7 rfl) ?_
                    refine lv_iload hx hb dX5_slotAt_166 (lv_at hl 8 rfl) ?_
                    refine lv_iload hx hb dX5_slotAt_168 (lv_at hl 7 rfl) ?_
                    refine jv_iconst hx hb dX5_slotAt_170 ?_
                    refine jv_iadd hx hb dX5_slotAt_171 ?_
                    refine jv_imul hx hb dX5_slotAt_172 ?_
                    refine jv_iadd hx hb dX5_slotAt_173 ?_
                    refine lv_istore (lv' := [(11, .int (jI (v9 + (lf * (v9 + 2))))), (10, .int (jI 0)), (9, .int (jI 0)), (0, .ref hm), (1, .int (jI layer)), (2, .long (jL v9)), (4, .int (jI k9)), (5, .int (jI sd)), (6, .int (jI v9)), (7, .int (jI lf)), (8, .int (jI i))]) hx hb dX5_slotAt_174 hl (by decide) rfl (fun ls hl => ?_)
                    refine jv_iconst hx hb dX5_slotAt_176 ?_
                    refine lv_iload hx hb dX5_slotAt_177 (lv_at hl 10 rfl) ?_
                    refine jv_imul hx hb dX5_slotAt_179 ?_
                    refine lv_istore (lv' := [(12, .int (jI (4 * i))), (11, .int (jI (v9 + (lf * (v9 + 2))))), (10, .int (jI 0)), (9, .int (jI 0)), (0, .ref hm), (1, .int (jI layer)), (2, .long (jL v9)), (4, .int (jI k9)), (5, .int (jI sd)), (6, .int (jI v9)), (7, .int (jI lf)), (8, .int (jI i))]) hx hb dX5_slotAt_180 hl (by decide) rfl (fun ls hl => ?_)
                    refine lv_iload hx hb dX5_slotAt_182 (lv_at hl 2 rfl) ?_
                    refine jv_if_eq (tgt := 262) hx hb ⟨by decide, by decide⟩ dX5_slotAt_184 (by decide) (fun c184 => ?_) (fun c184 => ?_)
                    · skip
                      refine lv_iload hx hb dX5_slotAt_262 (lv_at hl 8 rfl) ?_
                      refine jv_iconst hx hb dX5_slotAt_264 ?_
                      refine jv_icmp_ne (tgt := 283) hx hb ⟨by omega, by omega⟩ ⟨by decide, by decide⟩ dX5_slotAt_265 (by decide) (fun c265 => ?_) (fun c265 => ?_)
                      · skip
                        refine lv_iload hx hb dX5_slotAt_283 (lv_at hl 8 rfl) ?_
                        refine jv_iconst hx hb dX5_slotAt_285 ?_
                        refine jv_icmp_ne (tgt := 304) hx hb ⟨by omega, by omega⟩ ⟨by decide, by decide⟩ dX5_slotAt_286 (by decide) (fun c286 => ?_) (fun c286 => ?_)
                        · skip
                          refine lv_iload hx hb dX5_slotAt_304 (lv_at hl 8 rfl) ?_
                          refine jv_if_ne (tgt := 322) hx hb ⟨by omega, by omega⟩ dX5_slotAt_306 (by decide) (fun c306 => ?_) (fun c306 => ?_)
                          · skip
                            refine lv_aload_n hx hb dX5_slotAt_322 rfl (lv_at hl 4 rfl) ?_
                            refine va_get (D := D) (ci := 5) (v := .ref (md 7)) (C := RX5) (T := TX5) (N := 31) hx hb hts inX5 hown hK hP 0 rfl rfl 7 (by decide) f20 (fun _ h9 => h9) rfl dX5_slotAt_323 ?_
                            refine lv_iload hx hb dX5_slotAt_326 (lv_at hl 0 rfl) ?_
                            refine jv_iald hx hb hK hP 3 0 rfl rfl (i := (4 * i)) ⟨by omega, by omega⟩ (Nat.le_of_ble_eq_true rfl) dX5_slotAt_328 ?_
                            refine lv_iload hx hb dX5_slotAt_329 (lv_at hl 1 rfl) ?_
                            refine jv_iadd hx hb dX5_slotAt_331 ?_
                            refine jv_iconst hx hb dX5_slotAt_332 ?_
                            refine jv_iadd hx hb dX5_slotAt_333 ?_
                            exact hret (((bo (4 * i)) + (v9 + (lf * (v9 + 2)))) + 2) cv9 _ _ _ _ (by
                              have hsn2 : lf < slN q v9 := by omega
                              have hkb := (slN_bd hok2 (show 1 ≤ v9 by omega)).2.2 lf (by omega) hsn2
                              have hz9 := slAt_h (sd := sd) hi.1 hq (show q.2.1 = layer by omega) (by omega) hsn2
                              refine Or.inr (Or.inr ⟨by omega, by omega, by omega, ?_⟩)
                              rw [hs, hz9]
                              unfold slS
                              first
                              | (rw [if_neg (by omega)]; rw [if_pos (by omega)]; omega)
                              | (rw [if_neg (by omega)]; rw [if_neg (by omega), if_pos (by omega)]; omega)
                              | (rw [if_neg (by omega)]; rw [if_neg (by omega), if_neg (by omega), if_pos (by omega)]; omega)
                              | (rw [if_neg (by omega)]; rw [if_neg (by omega), if_neg (by omega), if_neg (by omega)]; omega)) (hP.sub [0, 1, 2, 3] rfl) (hD.sub [0, 1, 2, 3] (by decide) rfl) hS dX5_slotAt_334
                          · skip
                            refine lv_aload_n hx hb dX5_slotAt_309 rfl (lv_at hl 4 rfl) ?_
                            refine va_get (D := D) (ci := 5) (v := .ref (md 7)) (C := RX5) (T := TX5) (N := 31) hx hb hts inX5 hown hK hP 0 rfl rfl 7 (by decide) f20 (fun _ h9 => h9) rfl dX5_slotAt_310 ?_
                            refine lv_iload hx hb dX5_slotAt_313 (lv_at hl 0 rfl) ?_
                            refine jv_iald hx hb hK hP 3 0 rfl rfl (i := (4 * i)) ⟨by omega, by omega⟩ (Nat.le_of_ble_eq_true rfl) dX5_slotAt_315 ?_
                            refine lv_iload hx hb dX5_slotAt_316 (lv_at hl 1 rfl) ?_
                            refine jv_iadd hx hb dX5_slotAt_318 ?_
                            refine lv_goto (tgt := 334) hx hb dX5_slotAt_319 (by decide) ?_
                            exact hret ((bo (4 * i)) + (v9 + (lf * (v9 + 2)))) cv9 _ _ _ _ (by
                              have hsn2 : lf < slN q v9 := by omega
                              have hkb := (slN_bd hok2 (show 1 ≤ v9 by omega)).2.2 lf (by omega) hsn2
                              have hz9 := slAt_h (sd := sd) hi.1 hq (show q.2.1 = layer by omega) (by omega) hsn2
                              refine Or.inr (Or.inr ⟨by omega, by omega, by omega, ?_⟩)
                              rw [hs, hz9]
                              unfold slS
                              first
                              | (rw [if_neg (by omega)]; rw [if_pos (by omega)]; omega)
                              | (rw [if_neg (by omega)]; rw [if_neg (by omega), if_pos (by omega)]; omega)
                              | (rw [if_neg (by omega)]; rw [if_neg (by omega), if_neg (by omega), if_pos (by omega)]; omega)
                              | (rw [if_neg (by omega)]; rw [if_neg (by omega), if_neg (by omega), if_neg (by omega)]; omega)) (hP.sub [0, 1, 2, 3] rfl) (hD.sub [0, 1, 2, 3] (by decide) rfl) hS dX5_slotAt_334
                        · skip
                          refine lv_aload_n hx hb dX5_slotAt_289 rfl (lv_at hl 4 rfl) ?_
                          refine va_get (D := D) (ci := 5) (v := .ref (md 7)) (C := RX5) (T := TX5) (N := 31) hx hb hts inX5 hown hK hP 0 rfl rfl 7 (by decide) f20 (fun _ h9 => h9) rfl dX5_slotAt_290 ?_
                          refine lv_iload hx hb dX5_slotAt_293 (lv_at hl 0 rfl) ?_
                          refine jv_iconst hx hb dX5_slotAt_295 ?_
                          refine jv_iadd hx hb dX5_slotAt_296 ?_
                          refine jv_iald hx hb hK hP 3 0 rfl rfl (i := ((4 * i) + 3)) ⟨by omega, by omega⟩ (Nat.le_of_ble_eq_true rfl) dX5_slotAt_297 ?_
                          refine lv_iload hx hb dX5_slotAt_298 (lv_at hl 9 rfl) ?_
                          refine jv_isub hx hb dX5_slotAt_300 ?_
                          refine lv_goto (tgt := 334) hx hb dX5_slotAt_301 (by decide) ?_
                          exact hret ((bo ((4 * i) + 3)) - v9) cv9 _ _ _ _ (by
                            have hsn2 : lf < slN q v9 := by omega
                            have hkb := (slN_bd hok2 (show 1 ≤ v9 by omega)).2.2 lf (by omega) hsn2
                            have hz9 := slAt_h (sd := sd) hi.1 hq (show q.2.1 = layer by omega) (by omega) hsn2
                            refine Or.inr (Or.inr ⟨by omega, by omega, by omega, ?_⟩)
                            rw [hs, hz9]
                            unfold slS
                            first
                            | (rw [if_neg (by omega)]; rw [if_pos (by omega)]; omega)
                            | (rw [if_neg (by omega)]; rw [if_neg (by omega), if_pos (by omega)]; omega)
                            | (rw [if_neg (by omega)]; rw [if_neg (by omega), if_neg (by omega), if_pos (by omega)]; omega)
                            | (rw [if_neg (by omega)]; rw [if_neg (by omega), if_neg (by omega), if_neg (by omega)]; omega)) (hP.sub [0, 1, 2, 3] rfl) (hD.sub [0, 1, 2, 3] (by decide) rfl) hS dX5_slotAt_334
                      · skip
                        refine lv_aload_n hx hb dX5_slotAt_268 rfl (lv_at hl 4 rfl) ?_
                        refine va_get (D := D) (ci := 5) (v := .ref (md 7)) (C := RX5) (T := TX5) (N := 31) hx hb hts inX5 hown hK hP 0 rfl rfl 7 (by decide) f20 (fun _ h9 => h9) rfl dX5_slotAt_269 ?_
                        refine lv_iload hx hb dX5_slotAt_272 (lv_at hl 0 rfl) ?_
                        refine jv_iconst hx hb dX5_slotAt_274 ?_
                        refine jv_iadd hx hb dX5_slotAt_275 ?_
                        refine jv_iald hx hb hK hP 3 0 rfl rfl (i := ((4 * i) + 1)) ⟨by omega, by omega⟩ (Nat.le_of_ble_eq_true rfl) dX5_slotAt_276 ?_
                        refine lv_iload hx hb dX5_slotAt_277 (lv_at hl 9 rfl) ?_
                        refine jv_iadd hx hb dX5_slotAt_279 ?_
                        refine lv_goto (tgt := 334) hx hb dX5_slotAt_280 (by decide) ?_
                        exact hret ((bo ((4 * i) + 1)) + v9) cv9 _ _ _ _ (by
                          have hsn2 : lf < slN q v9 := by omega
                          have hkb := (slN_bd hok2 (show 1 ≤ v9 by omega)).2.2 lf (by omega) hsn2
                          have hz9 := slAt_h (sd := sd) hi.1 hq (show q.2.1 = layer by omega) (by omega) hsn2
                          refine Or.inr (Or.inr ⟨by omega, by omega, by omega, ?_⟩)
                          rw [hs, hz9]
                          unfold slS
                          first
                          | (rw [if_neg (by omega)]; rw [if_pos (by omega)]; omega)
                          | (rw [if_neg (by omega)]; rw [if_neg (by omega), if_pos (by omega)]; omega)
                          | (rw [if_neg (by omega)]; rw [if_neg (by omega), if_neg (by omega), if_pos (by omega)]; omega)
                          | (rw [if_neg (by omega)]; rw [if_neg (by omega), if_neg (by omega), if_neg (by omega)]; omega)) (hP.sub [0, 1, 2, 3] rfl) (hD.sub [0, 1, 2, 3] (by decide) rfl) hS dX5_slotAt_334
                    · skip
                      refine lv_iload hx hb dX5_slotAt_187 (lv_at hl 8 rfl) ?_
                      refine jv_if_ne (tgt := 205) hx hb ⟨by omega, by omega⟩ dX5_slotAt_189 (by decide) (fun c189 => ?_) (fun c189 => ?_)
                      · skip
                        refine lv_iload hx hb dX5_slotAt_205 (lv_at hl 8 rfl) ?_
                        refine jv_iconst hx hb dX5_slotAt_207 ?_
                        refine jv_icmp_ne (tgt := 226) hx hb ⟨by omega, by omega⟩ ⟨by decide, by decide⟩ dX5_slotAt_208 (by decide) (fun c208 => ?_) (fun c208 => ?_)
                        · skip
                          refine lv_iload hx hb dX5_slotAt_226 (lv_at hl 8 rfl) ?_
                          refine jv_iconst hx hb dX5_slotAt_228 ?_
                          refine jv_icmp_ne (tgt := 247) hx hb ⟨by omega, by omega⟩ ⟨by decide, by decide⟩ dX5_slotAt_229 (by decide) (fun c229 => ?_) (fun c229 => ?_)
                          · skip
                            refine lv_aload_n hx hb dX5_slotAt_247 rfl (lv_at hl 4 rfl) ?_
                            refine va_get (D := D) (ci := 5) (v := .ref (md 7)) (C := RX5) (T := TX5) (N := 31) hx hb hts inX5 hown hK hP 0 rfl rfl 7 (by decide) f20 (fun _ h9 => h9) rfl dX5_slotAt_248 ?_
                            refine lv_iload hx hb dX5_slotAt_251 (lv_at hl 0 rfl) ?_
                            refine jv_iconst hx hb dX5_slotAt_253 ?_
                            refine jv_iadd hx hb dX5_slotAt_254 ?_
                            refine jv_iald hx hb hK hP 3 0 rfl rfl (i := ((4 * i) + 1)) ⟨by omega, by omega⟩ (Nat.le_of_ble_eq_true rfl) dX5_slotAt_255 ?_
                            refine lv_iload hx hb dX5_slotAt_256 (lv_at hl 1 rfl) ?_
                            refine jv_iadd hx hb dX5_slotAt_258 ?_
                            refine jv_iconst hx hb dX5_slotAt_259 ?_
                            refine jv_iadd hx hb dX5_slotAt_260 ?_
                            exact hret (((bo ((4 * i) + 1)) + (v9 + (lf * (v9 + 2)))) + 2) cv9 _ _ _ _ (by
                              have hsn2 : lf < slN q v9 := by omega
                              have hkb := (slN_bd hok2 (show 1 ≤ v9 by omega)).2.2 lf (by omega) hsn2
                              have hz9 := slAt_h (sd := sd) hi.1 hq (show q.2.1 = layer by omega) (by omega) hsn2
                              refine Or.inr (Or.inr ⟨by omega, by omega, by omega, ?_⟩)
                              rw [hs, hz9]
                              unfold slS
                              first
                              | (rw [if_pos (by omega)]; rw [if_pos (by omega)]; omega)
                              | (rw [if_pos (by omega)]; rw [if_neg (by omega), if_pos (by omega)]; omega)
                              | (rw [if_pos (by omega)]; rw [if_neg (by omega), if_neg (by omega), if_pos (by omega)]; omega)
                              | (rw [if_pos (by omega)]; rw [if_neg (by omega), if_neg (by omega), if_neg (by omega)]; omega)) (hP.sub [0, 1, 2, 3] rfl) (hD.sub [0, 1, 2, 3] (by decide) rfl) hS dX5_slotAt_261
                          · skip
                            refine lv_aload_n hx hb dX5_slotAt_232 rfl (lv_at hl 4 rfl) ?_
                            refine va_get (D := D) (ci := 5) (v := .ref (md 7)) (C := RX5) (T := TX5) (N := 31) hx hb hts inX5 hown hK hP 0 rfl rfl 7 (by decide) f20 (fun _ h9 => h9) rfl dX5_slotAt_233 ?_
                            refine lv_iload hx hb dX5_slotAt_236 (lv_at hl 0 rfl) ?_
                            refine jv_iconst hx hb dX5_slotAt_238 ?_
                            refine jv_iadd hx hb dX5_slotAt_239 ?_
                            refine jv_iald hx hb hK hP 3 0 rfl rfl (i := ((4 * i) + 1)) ⟨by omega, by omega⟩ (Nat.le_of_ble_eq_true rfl) dX5_slotAt_240 ?_
                            refine lv_iload hx hb dX5_slotAt_241 (lv_at hl 1 rfl) ?_
                            refine jv_iadd hx hb dX5_slotAt_243 ?_
                            refine lv_goto (tgt := 261) hx hb dX5_slotAt_244 (by decide) ?_
                            exact hret ((bo ((4 * i) + 1)) + (v9 + (lf * (v9 + 2)))) cv9 _ _ _ _ (by
                              have hsn2 : lf < slN q v9 := by omega
                              have hkb := (slN_bd hok2 (show 1 ≤ v9 by omega)).2.2 lf (by omega) hsn2
                              have hz9 := slAt_h (sd := sd) hi.1 hq (show q.2.1 = layer by omega) (by omega) hsn2
                              refine Or.inr (Or.inr ⟨by omega, by omega, by omega, ?_⟩)
                              rw [hs, hz9]
                              unfold slS
                              first
                              | (rw [if_pos (by omega)]; rw [if_pos (by omega)]; omega)
                              | (rw [if_pos (by omega)]; rw [if_neg (by omega), if_pos (by omega)]; omega)
                              | (rw [if_pos (by omega)]; rw [if_neg (by omega), if_neg (by omega), if_pos (by omega)]; omega)
                              | (rw [if_pos (by omega)]; rw [if_neg (by omega), if_neg (by omega), if_neg (by omega)]; omega)) (hP.sub [0, 1, 2, 3] rfl) (hD.sub [0, 1, 2, 3] (by decide) rfl) hS dX5_slotAt_261
                        · skip
                          refine lv_aload_n hx hb dX5_slotAt_211 rfl (lv_at hl 4 rfl) ?_
                          refine va_get (D := D) (ci := 5) (v := .ref (md 7)) (C := RX5) (T := TX5) (N := 31) hx hb hts inX5 hown hK hP 0 rfl rfl 7 (by decide) f20 (fun _ h9 => h9) rfl dX5_slotAt_212 ?_
                          refine lv_iload hx hb dX5_slotAt_215 (lv_at hl 0 rfl) ?_
                          refine jv_iconst hx hb dX5_slotAt_217 ?_
                          refine jv_iadd hx hb dX5_slotAt_218 ?_
                          refine jv_iald hx hb hK hP 3 0 rfl rfl (i := ((4 * i) + 2)) ⟨by omega, by omega⟩ (Nat.le_of_ble_eq_true rfl) dX5_slotAt_219 ?_
                          refine lv_iload hx hb dX5_slotAt_220 (lv_at hl 9 rfl) ?_
                          refine jv_isub hx hb dX5_slotAt_222 ?_
                          refine lv_goto (tgt := 261) hx hb dX5_slotAt_223 (by decide) ?_
                          exact hret ((bo ((4 * i) + 2)) - v9) cv9 _ _ _ _ (by
                            have hsn2 : lf < slN q v9 := by omega
                            have hkb := (slN_bd hok2 (show 1 ≤ v9 by omega)).2.2 lf (by omega) hsn2
                            have hz9 := slAt_h (sd := sd) hi.1 hq (show q.2.1 = layer by omega) (by omega) hsn2
                            refine Or.inr (Or.inr ⟨by omega, by omega, by omega, ?_⟩)
                            rw [hs, hz9]
                            unfold slS
                            first
                            | (rw [if_pos (by omega)]; rw [if_pos (by omega)]; omega)
                            | (rw [if_pos (by omega)]; rw [if_neg (by omega), if_pos (by omega)]; omega)
                            | (rw [if_pos (by omega)]; rw [if_neg (by omega), if_neg (by omega), if_pos (by omega)]; omega)
                            | (rw [if_pos (by omega)]; rw [if_neg (by omega), if_neg (by omega), if_neg (by omega)]; omega)) (hP.sub [0, 1, 2, 3] rfl) (hD.sub [0, 1, 2, 3] (by decide) rfl) hS dX5_slotAt_261
                      · skip
                        refine lv_aload_n hx hb dX5_slotAt_192 rfl (lv_at hl 4 rfl) ?_
                        refine va_get (D := D) (ci := 5) (v := .ref (md 7)) (C := RX5) (T := TX5) (N := 31) hx hb hts inX5 hown hK hP 0 rfl rfl 7 (by decide) f20 (fun _ h9 => h9) rfl dX5_slotAt_193 ?_
                        refine lv_iload hx hb dX5_slotAt_196 (lv_at hl 0 rfl) ?_
                        refine jv_iald hx hb hK hP 3 0 rfl rfl (i := (4 * i)) ⟨by omega, by omega⟩ (Nat.le_of_ble_eq_true rfl) dX5_slotAt_198 ?_
                        refine lv_iload hx hb dX5_slotAt_199 (lv_at hl 9 rfl) ?_
                        refine jv_iadd hx hb dX5_slotAt_201 ?_
                        refine lv_goto (tgt := 261) hx hb dX5_slotAt_202 (by decide) ?_
                        exact hret ((bo (4 * i)) + v9) cv9 _ _ _ _ (by
                          have hsn2 : lf < slN q v9 := by omega
                          have hkb := (slN_bd hok2 (show 1 ≤ v9 by omega)).2.2 lf (by omega) hsn2
                          have hz9 := slAt_h (sd := sd) hi.1 hq (show q.2.1 = layer by omega) (by omega) hsn2
                          refine Or.inr (Or.inr ⟨by omega, by omega, by omega, ?_⟩)
                          rw [hs, hz9]
                          unfold slS
                          first
                          | (rw [if_pos (by omega)]; rw [if_pos (by omega)]; omega)
                          | (rw [if_pos (by omega)]; rw [if_neg (by omega), if_pos (by omega)]; omega)
                          | (rw [if_pos (by omega)]; rw [if_neg (by omega), if_neg (by omega), if_pos (by omega)]; omega)
                          | (rw [if_pos (by omega)]; rw [if_neg (by omega), if_neg (by omega), if_neg (by omega)]; omega)) (hP.sub [0, 1, 2, 3] rfl) (hD.sub [0, 1, 2, 3] (by decide) rfl) hS dX5_slotAt_261
                  · skip
                    refine jv_iconst hx hb dX5_slotAt_157 ?_
                    refine lv_goto (tgt := 162) hx hb dX5_slotAt_158 (by decide) ?_
                    refine lv_istore (lv' := [(10, .int (jI 1)), (9, .int (jI 0)), (0, .ref hm), (1, .int (jI layer)), (2, .long (jL v9)), (4, .int (jI k9)), (5, .int (jI sd)), (6, .int (jI v9)), (7, .int (jI lf)), (8, .int (jI i))]) hx hb dX5_slotAt_162 hl (by decide) rfl (fun ls hl => ?_)
                    refine lv_iload hx hb dX5_slotAt_164 (lv_at hl 7 rfl) ?_
                    refine lv_iload hx hb dX5_slotAt_166 (lv_at hl 8 rfl) ?_
                    refine lv_iload hx hb dX5_slotAt_168 (lv_at hl 7 rfl) ?_
                    refine jv_iconst hx hb dX5_slotAt_170 ?_
                    refine jv_iadd hx hb dX5_slotAt_171 ?_
                    refine jv_imul hx hb dX5_slotAt_172 ?_
                    refine jv_iadd hx hb dX5_slotAt_173 ?_
                    refine lv_istore (lv' := [(11, .int (jI (v9 + (lf * (v9 + 2))))), (10, .int (jI 1)), (9, .int (jI 0)), (0, .ref hm), (1, .int (jI layer)), (2, .long (jL v9)), (4, .int (jI k9)), (5, .int (jI sd)), (6, .int (jI v9)), (7, .int (jI lf)), (8, .int (jI i))]) hx hb dX5_slotAt_174 hl (by decide) rfl (fun ls hl => ?_)
                    refine jv_iconst hx hb dX5_slotAt_176 ?_
                    refine lv_iload hx hb dX5_slotAt_177 (lv_at hl 10 rfl) ?_
                    refine jv_imul hx hb dX5_slotAt_179 ?_
                    refine lv_istore (lv' := [(12, .int (jI (4 * i))), (11, .int (jI (v9 + (lf * (v9 + 2))))), (10, .int (jI 1)), (9, .int (jI 0)), (0, .ref hm), (1, .int (jI layer)), (2, .long (jL v9)), (4, .int (jI k9)), (5, .int (jI sd)), (6, .int (jI v9)), (7, .int (jI lf)), (8, .int (jI i))]) hx hb dX5_slotAt_180 hl (by decide) rfl (fun ls hl => ?_)
                    refine lv_iload hx hb dX5_slotAt_182 (lv_at hl 2 rfl) ?_
                    refine jv_if_eq (tgt := 262) hx hb ⟨by decide, by decide⟩ dX5_slotAt_184 (by decide) (fun c184 => ?_) (fun c184 => ?_)
                    · skip
                      refine lv_iload hx hb dX5_slotAt_262 (lv_at hl 8 rfl) ?_
                      refine jv_iconst hx hb dX5_slotAt_264 ?_
                      refine jv_icmp_ne (tgt := 283) hx hb ⟨by omega, by omega⟩ ⟨by decide, by decide⟩ dX5_slotAt_265 (by decide) (fun c265 => ?_) (fun c265 => ?_)
                      · skip
                        refine lv_iload hx hb dX5_slotAt_283 (lv_at hl 8 rfl) ?_
                        refine jv_iconst hx hb dX5_slotAt_285 ?_
                        refine jv_icmp_ne (tgt := 304) hx hb ⟨by omega, by omega⟩ ⟨by decide, by decide⟩ dX5_slotAt_286 (by decide) (fun c286 => ?_) (fun c286 => ?_)
                        · skip
                          refine lv_iload hx hb dX5_slotAt_304 (lv_at hl 8 rfl) ?_
                          refine jv_if_ne (tgt := 322) hx hb ⟨by omega, by omega⟩ dX5_slotAt_306 (by decide) (fun c306 => ?_) (fun c306 => ?_)
                          · skip
                            refine lv_aload_n hx hb dX5_slotAt_322 rfl (lv_at hl 4 rfl) ?_
                            refine va_get (D := D) (ci := 5) (v := .ref (md 7)) (C := RX5) (T := TX5) (N := 31) hx hb hts inX5 hown hK hP 0 rfl rfl 7 (by decide) f20 (fun _ h9 => h9) rfl dX5_slotAt_323 ?_
                            refine lv_iload hx hb dX5_slotAt_326 (lv_at hl 0 rfl) ?_
                            refine jv_iald hx hb hK hP 3 0 rfl rfl (i := (4 * i)) ⟨by omega, by omega⟩ (Nat.le_of_ble_eq_true rfl) dX5_slotAt_328 ?_
                            refine lv_iload hx hb dX5_slotAt_329 (lv_at hl 1 rfl) ?_
                            refine jv_iadd hx hb dX5_slotAt_331 ?_
                            refine jv_iconst hx hb dX5_slotAt_332 ?_
                            refine jv_iadd hx hb dX5_slotAt_333 ?_
                            exact hret (((bo (4 * i)) + (v9 + (lf * (v9 + 2)))) + 2) cv9 _ _ _ _ (by
                              have hsn2 : lf < slN q v9 := by omega
                              have hkb := (slN_bd hok2 (show 1 ≤ v9 by omega)).2.2 lf (by omega) hsn2
                              have hz9 := slAt_h (sd := sd) hi.1 hq (show q.2.1 = layer by omega) (by omega) hsn2
                              refine Or.inr (Or.inr ⟨by omega, by omega, by omega, ?_⟩)
                              rw [hs, hz9]
                              unfold slS
                              first
                              | (rw [if_neg (by omega)]; rw [if_pos (by omega)]; omega)
                              | (rw [if_neg (by omega)]; rw [if_neg (by omega), if_pos (by omega)]; omega)
                              | (rw [if_neg (by omega)]; rw [if_neg (by omega), if_neg (by omega), if_pos (by omega)]; omega)
                              | (rw [if_neg (by omega)]; rw [if_neg (by omega), if_neg (by omega), if_neg (by omega)]; omega)) (hP.sub [0, 1, 2, 3] rfl) (hD.sub [0, 1, 2, 3] (by decide) rfl) hS dX5_slotAt_334
                          · skip
                            refine lv_aload_n hx hb dX5_slotAt_309 rfl (lv_at hl 4 rfl) ?_
                            refine va_get (D := D) (ci := 5) (v := .ref (md 7)) (C := RX5) (T := TX5) (N := 31) hx hb hts inX5 hown hK hP 0 rfl rfl 7 (by decide) f20 (fun _ h9 => h9) rfl dX5_slotAt_310 ?_
                            refine lv_iload hx hb dX5_slotAt_313 (lv_at hl 0 rfl) ?_
                            refine jv_iald hx hb hK hP 3 0 rfl rfl (i := (4 * i)) ⟨by omega, by omega⟩ (Nat.le_of_ble_eq_true rfl) dX5_slotAt_315 ?_
                            refine lv_iload hx hb dX5_slotAt_316 (lv_at hl 1 rfl) ?_
                            refine jv_iadd hx hb dX5_slotAt_318 ?_
                            refine lv_goto (tgt := 334) hx hb dX5_slotAt_319 (by decide) ?_
                            exact hret ((bo (4 * i)) + (v9 + (lf * (v9 + 2)))) cv9 _ _ _ _ (by
                              have hsn2 : lf < slN q v9 := by omega
                              have hkb := (slN_bd hok2 (show 1 ≤ v9 by omega)).2.2 lf (by omega) hsn2
                              have hz9 := slAt_h (sd := sd) hi.1 hq (show q.2.1 = layer by omega) (by omega) hsn2
                              refine Or.inr (Or.inr ⟨by omega, by omega, by omega, ?_⟩)
                              rw [hs, hz9]
                              unfold slS
                              first
                              | (rw [if_neg (by omega)]; rw [if_pos (by omega)]; omega)
                              | (rw [if_neg (by omega)]; rw [if_neg (by omega), if_pos (by omega)]; omega)
                              | (rw [if_neg (by omega)]; rw [if_neg (by omega), if_neg (by omega), if_pos (by omega)]; omega)
                              | (rw [if_neg (by omega)]; rw [if_neg (by omega), if_neg (by omega), if_neg (by omega)]; omega)) (hP.sub [0, 1, 2, 3] rfl) (hD.sub [0, 1, 2, 3] (by decide) rfl) hS dX5_slotAt_334
                        · skip
                          refine lv_aload_n hx hb dX5_slotAt_289 rfl (lv_at hl 4 rfl) ?_
                          refine va_get (D := D) (ci := 5) (v := .ref (md 7)) (C := RX5) (T := TX5) (N := 31) hx hb hts inX5 hown hK hP 0 rfl rfl 7 (by decide) f20 (fun _ h9 => h9) rfl dX5_slotAt_290 ?_
                          refine lv_iload hx hb dX5_slotAt_293 (lv_at hl 0 rfl) ?_
                          refine jv_iconst hx hb dX5_slotAt_295 ?_
                          refine jv_iadd hx hb dX5_slotAt_296 ?_
                          refine jv_iald hx hb hK hP 3 0 rfl rfl (i := ((4 * i) + 3)) ⟨by omega, by omega⟩ (Nat.le_of_ble_eq_true rfl) dX5_slotAt_297 ?_
                          refine lv_iload hx hb dX5_slotAt_298 (lv_at hl 9 rfl) ?_
                          refine jv_isub hx hb dX5_slotAt_300 ?_
                          refine lv_goto (tgt := 334) hx hb dX5_slotAt_301 (by decide) ?_
                          exact hret ((bo ((4 * i) + 3)) - v9) cv9 _ _ _ _ (by
                            have hsn2 : lf < slN q v9 := by omega
                            have hkb := (slN_bd hok2 (show 1 ≤ v9 by omega)).2.2 lf (by omega) hsn2
                            have hz9 := slAt_h (sd := sd) hi.1 hq (show q.2.1 = layer by omega) (by omega) hsn2
                            refine Or.inr (Or.inr ⟨by omega, by omega, by omega, ?_⟩)
                            rw [hs, hz9]
                            unfold slS
                            first
                            | (rw [if_neg (by omega)]; rw [if_pos (by omega)]; omega)
                            | (rw [if_neg (by omega)]; rw [if_neg (by omega), if_pos (by omega)]; omega)
                            | (rw [if_neg (by omega)]; rw [if_neg (by omega), if_neg (by omega), if_pos (by omega)]; omega)
                            | (rw [if_neg (by omega)]; rw [if_neg (by omega), if_neg (by omega), if_neg (by omega)]; omega)) (hP.sub [0, 1, 2, 3] rfl) (hD.sub [0, 1, 2, 3] (by decide) rfl) hS dX5_slotAt_334
                      · skip
                        refine lv_aload_n hx hb dX5_slotAt_268 rfl (lv_at hl 4 rfl) ?_
                        refine va_get (D := D) (ci := 5) (v := .ref (md 7)) (C := RX5) (T := TX5) (N := 31) hx hb hts inX5 hown hK hP 0 rfl rfl 7 (by decide) f20 (fun _ h9 => h9) rfl dX5_slotAt_269 ?_
                        refine lv_iload hx hb dX5_slotAt_272 (lv_at hl 0 rfl) ?_
                        refine jv_iconst hx hb dX5_slotAt_274 ?_
                        refine jv_iadd hx hb dX5_slotAt_275 ?_
                        refine jv_iald hx hb hK hP 3 0 rfl rfl (i := ((4 * i) + 1)) ⟨by omega, by omega⟩ (Nat.le_of_ble_eq_true rfl) dX5_slotAt_276 ?_
                        refine lv_iload hx hb dX5_slotAt_277 (lv_at hl 9 rfl) ?_
                        refine jv_iadd hx hb dX5_slotAt_279 ?_
                        refine lv_goto (tgt := 334) hx hb dX5_slotAt_280 (by decide) ?_
                        exact hret ((bo ((4 * i) + 1)) + v9) cv9 _ _ _ _ (by
                          have hsn2 : lf < slN q v9 := by omega
                          have hkb := (slN_bd hok2 (show 1 ≤ v9 by omega)).2.2 lf (by omega) hsn2
                          have hz9 := slAt_h (sd := sd) hi.1 hq (show q.2.1 = layer by omega) (by omega) hsn2
                          refine Or.inr (Or.inr ⟨by omega, by omega, by omega, ?_⟩)
                          rw [hs, hz9]
                          unfold slS
                          first
                          | (rw [if_neg (by omega)]; rw [if_pos (by omega)]; omega)
                          | (rw [if_neg (by omega)]; rw [if_neg (by omega), if_pos (by omega)]; omega)
                          | (rw [if_neg (by omega)]; rw [if_neg (by omega), if_neg (by omega), if_pos (by omega)]; omega)
                          | (rw [if_neg (by omega)]; rw [if_neg (by omega), if_neg (by omega), if_neg (by omega)]; omega)) (hP.sub [0, 1, 2, 3] rfl) (hD.sub [0, 1, 2, 3] (by decide) rfl) hS dX5_slotAt_334
                    · skip
                      refine lv_iload hx hb dX5_slotAt_187 (lv_at hl 8 rfl) ?_
                      refine jv_if_ne (tgt := 205) hx hb ⟨by omega, by omega⟩ dX5_slotAt_189 (by decide) (fun c189 => ?_) (fun c189 => ?_)
                      · skip
                        refine lv_iload hx hb dX5_slotAt_205 (lv_at hl 8 rfl) ?_
                        refine jv_iconst hx hb dX5_slotAt_207 ?_
                        refine jv_icmp_ne (tgt := 226) hx hb ⟨by omega, by omega⟩ ⟨by decide, by decide⟩ dX5_slotAt_208 (by decide) (fun c208 => ?_) (fun c208 => ?_)
                        · skip
                          refine lv_iload hx hb dX5_slotAt_226 (lv_at hl 8 rfl) ?_
                          refine jv_iconst hx hb dX5_slotAt_228 ?_
                          refine jv_icmp_ne (tgt := 247) hx hb ⟨by omega, by omega⟩ ⟨by decide, by decide⟩ dX5_slotAt_229 (by decide) (fun c229 => ?_) (fun c229 => ?_)
                          · skip
                            refine lv_aload_n hx hb dX5_slotAt_247 rfl (lv_at hl 4 rfl) ?_
                            refine va_get (D := D) (ci := 5) (v := .ref (md 7)) (C := RX5) (T := TX5) (N := 31) hx hb hts inX5 hown hK hP 0 rfl rfl 7 (by decide) f20 (fun _ h9 => h9) rfl dX5_slotAt_248 ?_
                            refine lv_iload hx hb dX5_slotAt_251 (lv_at hl 0 rfl) ?_
                            refine jv_iconst hx hb dX5_slotAt_253 ?_
                            refine jv_iadd hx hb dX5_slotAt_254 ?_
                            refine jv_iald hx hb hK hP 3 0 rfl rfl (i := ((4 * i) + 1)) ⟨by omega, by omega⟩ (Nat.le_of_ble_eq_true rfl) dX5_slotAt_255 ?_
                            refine lv_iload hx hb dX5_slotAt_256 (lv_at hl 1 rfl) ?_
                            refine jv_iadd hx hb dX5_slotAt_258 ?_
                            refine jv_iconst hx hb dX5_slotAt_259 ?_
                            refine jv_iadd hx hb dX5_slotAt_260 ?_
                            exact hret (((bo ((4 * i) + 1)) + (v9 + (lf * (v9 + 2)))) + 2) cv9 _ _ _ _ (by
                              have hsn2 : lf < slN q v9 := by omega
                              have hkb := (slN_bd hok2 (show 1 ≤ v9 by omega)).2.2 lf (by omega) hsn2
                              have hz9 := slAt_h (sd := sd) hi.1 hq (show q.2.1 = layer by omega) (by omega) hsn2
                              refine Or.inr (Or.inr ⟨by omega, by omega, by omega, ?_⟩)
                              rw [hs, hz9]
                              unfold slS
                              first
                              | (rw [if_pos (by omega)]; rw [if_pos (by omega)]; omega)
                              | (rw [if_pos (by omega)]; rw [if_neg (by omega), if_pos (by omega)]; omega)
                              | (rw [if_pos (by omega)]; rw [if_neg (by omega), if_neg (by omega), if_pos (by omega)]; omega)
                              | (rw [if_pos (by omega)]; rw [if_neg (by omega), if_neg (by omega), if_neg (by omega)]; omega)) (hP.sub [0, 1, 2, 3] rfl) (hD.sub [0, 1, 2, 3] (by decide) rfl) hS dX5_slotAt_261
                          · skip
                            refine lv_aload_n hx hb dX5_slotAt_232 rfl (lv_at hl 4 rfl) ?_
                            refine va_get (D := D) (ci := 5) (v := .ref (md 7)) (C := RX5) (T := TX5) (N := 31) hx hb hts inX5 hown hK hP 0 rfl rfl 7 (by decide) f20 (fun _ h9 => h9) rfl dX5_slotAt_233 ?_
                            refine lv_iload hx hb dX5_slotAt_236 (lv_at hl 0 rfl) ?_
                            refine jv_iconst hx hb dX5_slotAt_238 ?_
                            refine jv_iadd hx hb dX5_slotAt_239 ?_
                            refine jv_iald hx hb hK hP 3 0 rfl rfl (i := ((4 * i) + 1)) ⟨by omega, by omega⟩ (Nat.le_of_ble_eq_true rfl) dX5_slotAt_240 ?_
                            refine lv_iload hx hb dX5_slotAt_241 (lv_at hl 1 rfl) ?_
                            refine jv_iadd hx hb dX5_slotAt_243 ?_
                            refine lv_goto (tgt := 261) hx hb dX5_slotAt_244 (by decide) ?_
                            exact hret ((bo ((4 * i) + 1)) + (v9 + (lf * (v9 + 2)))) cv9 _ _ _ _ (by
                              have hsn2 : lf < slN q v9 := by omega
                              have hkb := (slN_bd hok2 (show 1 ≤ v9 by omega)).2.2 lf (by omega) hsn2
                              have hz9 := slAt_h (sd := sd) hi.1 hq (show q.2.1 = layer by omega) (by omega) hsn2
                              refine Or.inr (Or.inr ⟨by omega, by omega, by omega, ?_⟩)
                              rw [hs, hz9]
                              unfold slS
                              first
                              | (rw [if_pos (by omega)]; rw [if_pos (by omega)]; omega)
                              | (rw [if_pos (by omega)]; rw [if_neg (by omega), if_pos (by omega)]; omega)
                              | (rw [if_pos (by omega)]; rw [if_neg (by omega), if_neg (by omega), if_pos (by omega)]; omega)
                              | (rw [if_pos (by omega)]; rw [if_neg (by omega), if_neg (by omega), if_neg (by omega)]; omega)) (hP.sub [0, 1, 2, 3] rfl) (hD.sub [0, 1, 2, 3] (by decide) rfl) hS dX5_slotAt_261
                        · skip
                          refine lv_aload_n hx hb dX5_slotAt_211 rfl (lv_at hl 4 rfl) ?_
                          refine va_get (D := D) (ci := 5) (v := .ref (md 7)) (C := RX5) (T := TX5) (N := 31) hx hb hts inX5 hown hK hP 0 rfl rfl 7 (by decide) f20 (fun _ h9 => h9) rfl dX5_slotAt_212 ?_
                          refine lv_iload hx hb dX5_slotAt_215 (lv_at hl 0 rfl) ?_
                          refine jv_iconst hx hb dX5_slotAt_217 ?_
                          refine jv_iadd hx hb dX5_slotAt_218 ?_
                          refine jv_iald hx hb hK hP 3 0 rfl rfl (i := ((4 * i) + 2)) ⟨by omega, by omega⟩ (Nat.le_of_ble_eq_true rfl) dX5_slotAt_219 ?_
                          refine lv_iload hx hb dX5_slotAt_220 (lv_at hl 9 rfl) ?_
                          refine jv_isub hx hb dX5_slotAt_222 ?_
                          refine lv_goto (tgt := 261) hx hb dX5_slotAt_223 (by decide) ?_
                          exact hret ((bo ((4 * i) + 2)) - v9) cv9 _ _ _ _ (by
                            have hsn2 : lf < slN q v9 := by omega
                            have hkb := (slN_bd hok2 (show 1 ≤ v9 by omega)).2.2 lf (by omega) hsn2
                            have hz9 := slAt_h (sd := sd) hi.1 hq (show q.2.1 = layer by omega) (by omega) hsn2
                            refine Or.inr (Or.inr ⟨by omega, by omega, by omega, ?_⟩)
                            rw [hs, hz9]
                            unfold slS
                            first
                            | (rw [if_pos (by omega)]; rw [if_pos (by omega)]; omega)
                            | (rw [if_pos (by omega)]; rw [if_neg (by omega), if_pos (by omega)]; omega)
                            | (rw [if_pos (by omega)]; rw [if_neg (by omega), if_neg (by omega), if_pos (by omega)]; omega)
                            | (rw [if_pos (by omega)]; rw [if_neg (by omega), if_neg (by omega), if_neg (by omega)]; omega)) (hP.sub [0, 1, 2, 3] rfl) (hD.sub [0, 1, 2, 3] (by decide) rfl) hS dX5_slotAt_261
                      · skip
                        refine lv_aload_n hx hb dX5_slotAt_192 rfl (lv_at hl 4 rfl) ?_
                        refine va_get (D := D) (ci := 5) (v := .ref (md 7)) (C := RX5) (T := TX5) (N := 31) hx hb hts inX5 hown hK hP 0 rfl rfl 7 (by decide) f20 (fun _ h9 => h9) rfl dX5_slotAt_193 ?_
                        refine lv_iload hx hb dX5_slotAt_196 (lv_at hl 0 rfl) ?_
                        refine jv_iald hx hb hK hP 3 0 rfl rfl (i := (4 * i)) ⟨by omega, by omega⟩ (Nat.le_of_ble_eq_true rfl) dX5_slotAt_198 ?_
                        refine lv_iload hx hb dX5_slotAt_199 (lv_at hl 9 rfl) ?_
                        refine jv_iadd hx hb dX5_slotAt_201 ?_
                        refine lv_goto (tgt := 261) hx hb dX5_slotAt_202 (by decide) ?_
                        exact hret ((bo (4 * i)) + v9) cv9 _ _ _ _ (by
                          have hsn2 : lf < slN q v9 := by omega
                          have hkb := (slN_bd hok2 (show 1 ≤ v9 by omega)).2.2 lf (by omega) hsn2
                          have hz9 := slAt_h (sd := sd) hi.1 hq (show q.2.1 = layer by omega) (by omega) hsn2
                          refine Or.inr (Or.inr ⟨by omega, by omega, by omega, ?_⟩)
                          rw [hs, hz9]
                          unfold slS
                          first
                          | (rw [if_pos (by omega)]; rw [if_pos (by omega)]; omega)
                          | (rw [if_pos (by omega)]; rw [if_neg (by omega), if_pos (by omega)]; omega)
                          | (rw [if_pos (by omega)]; rw [if_neg (by omega), if_neg (by omega), if_pos (by omega)]; omega)
                          | (rw [if_pos (by omega)]; rw [if_neg (by omega), if_neg (by omega), if_neg (by omega)]; omega)) (hP.sub [0, 1, 2, 3] rfl) (hD.sub [0, 1, 2, 3] (by decide) rfl) hS dX5_slotAt_261
              · skip
                refine lv_aload_n hx hb dX5_slotAt_89 rfl (lv_at hl 0 rfl) ?_
                refine lv_iload hx hb dX5_slotAt_90 (lv_at hl 7 rfl) ?_
                refine lv_iload hx hb dX5_slotAt_92 (lv_at hl 5 rfl) ?_
                refine jc_Vi (As := [.int (jI i), .int (jI v9)]) (rest := []) (wq := [((md 5), .inl (g.1, 200, .inl (aI sn))), ((md 6), .inl (g.1, 200, .inl (aI sl)))]) ⟨hx, hb, hml, hown, hts⟩ (tX5_slotsOf l D g hm md cv9 ly nt ns nd np nq tq sn sl bo L q i v9 (⟨e2, e3, e4, e5, hok2⟩) (⟨hi.1, by omega⟩) (by omega)) (cwV 2 hts gX5_slotAt_X5_slotsOf rfl rfl rfl (by decide +kernel) ⟨Nat.le_of_ble_eq_true rfl, Nat.le_of_ble_eq_true rfl⟩) hK hP hD hS hA [0, 3] [1, 2] rfl rfl (by decide) (by decide) (by decide) (va_recv hK hP (ci := 5) (q0 := 0) rfl rfl) rfl rfl hl.1 (Nat.le_of_ble_eq_true rfl) dX5_slotAt_94 ⟨Nat.le_of_ble_eq_true rfl, Nat.le_of_ble_eq_true rfl⟩ (fun sn9 u H locs hu hP hD hS => ?_)
                have hu : sn9 = slN q v9 := hu
                have hsn := hu
                have hP : va_P D jcl [((md 5), .inl (g.1, 200, .inl (aI sn))), ((md 6), .inl (g.1, 200, .inl (aI sl))), (hm, .inr (5, [.int (jI cv9), .int (jI ly), .int (jI nt), .ref (md 3), .int (jI ns), .ref (md 5), .ref (md 6), .ref (md 7), .int (jI nd), .ref (md 9), .ref (md 10), .ref (md 11), .int (jI np), .ref (md 13), .ref (md 14), .ref (md 15), .ref (md 16), .ref (md 17), .ref (md 18), .ref (md 19), .ref (md 20), .int (jI nq), .ref (md 22), .ref (md 23), .ref (md 24), .ref (md 25), .ref (md 26), .int (jI tq), .ref (md 28), .ref (md 29), .ref (md 30)])), ((md 7), .inl (g.1, 800, .inl (aI bo)))] H := hP
                have hD : va_D A [((md 5), .inl (g.1, 200, .inl (aI sn))), ((md 6), .inl (g.1, 200, .inl (aI sl))), (hm, .inr (5, [.int (jI cv9), .int (jI ly), .int (jI nt), .ref (md 3), .int (jI ns), .ref (md 5), .ref (md 6), .ref (md 7), .int (jI nd), .ref (md 9), .ref (md 10), .ref (md 11), .int (jI np), .ref (md 13), .ref (md 14), .ref (md 15), .ref (md 16), .ref (md 17), .ref (md 18), .ref (md 19), .ref (md 20), .int (jI nq), .ref (md 22), .ref (md 23), .ref (md 24), .ref (md 25), .ref (md 26), .int (jI tq), .ref (md 28), .ref (md 29), .ref (md 30)])), ((md 7), .inl (g.1, 800, .inl (aI bo)))] := hD
                have hnb := slN_bd hok2 (show 1 ≤ v9 by omega)
                rw [← hsn] at hnb
                refine lv_goto (tgt := 101) hx hb dX5_slotAt_97 (by decide) ?_
                refine lv_istore (lv' := [(9, .int (jI sn9)), (0, .ref hm), (1, .int (jI layer)), (2, .long (jL v9)), (4, .int (jI k9)), (5, .int (jI sd)), (6, .int (jI v9)), (7, .int (jI lf)), (8, .int (jI i))]) hx hb dX5_slotAt_101 hl (by decide) rfl (fun ls hl => ?_)
                refine lv_iload hx hb dX5_slotAt_103 (lv_at hl 7 rfl) ?_
                refine lv_iload hx hb dX5_slotAt_105 (lv_at hl 0 rfl) ?_
                refine jv_icmp_ge (tgt := 335) hx hb ⟨by omega, by omega⟩ ⟨by omega, by omega⟩ dX5_slotAt_107 (by decide) (fun c107 => ?_) (fun c107 => ?_)
                · skip
                  refine lv_iload hx hb dX5_slotAt_335 (lv_at hl 7 rfl) ?_
                  refine lv_iload hx hb dX5_slotAt_337 (lv_at hl 0 rfl) ?_
                  refine jv_isub hx hb dX5_slotAt_339 ?_
                  refine lv_istore (lv' := [(7, .int (jI (lf - sn9))), (9, .int (jI sn9)), (0, .ref hm), (1, .int (jI layer)), (2, .long (jL v9)), (4, .int (jI k9)), (5, .int (jI sd)), (6, .int (jI v9)), (8, .int (jI i))]) hx hb dX5_slotAt_340 hl (by decide) rfl (fun ls hl => ?_)
                  refine jv_iinc (lv2 := [(8, .int (jI (i + 1))), (7, .int (jI (lf - sn9))), (9, .int (jI sn9)), (0, .ref hm), (1, .int (jI layer)), (2, .long (jL v9)), (4, .int (jI k9)), (5, .int (jI sd)), (6, .int (jI v9))]) hx hb dX5_slotAt_342 hl (k := 8) rfl (by decide) rfl (fun ls hl => ?_)
                  refine lv_goto (tgt := 57) hx hb dX5_slotAt_345 (by decide) ?_
                  exact ihLS (i + 1) (lf - sn9) (by omega) (by omega) (by first | (rw [hs, slAt_n hi.1 hq (by omega), Int.sub_zero]) | (rw [hs, slAt_s hi.1 hq (by omega) (by omega) (by omega), ← hsn])) (by omega) _ _ _ (hP.sub [2, 0, 1, 3] rfl) (hD.sub [2, 0, 1, 3] (by decide) rfl) hS (lv_sub hl [3, 4, 5, 6, 7, 8, 1, 0] rfl)
                · skip
                  have hkb := (slN_bd hok2 (show 1 ≤ v9 by omega)).2.2 lf (by omega) (by omega)
                  have hk0 : 0 ≤ lf * (v9 + 2) := Int.mul_nonneg (by omega) (by omega)
                  refine lv_aload_n hx hb dX5_slotAt_110 rfl (lv_at hl 1 rfl) ?_
                  refine va_get (D := D) (ci := 5) (v := .ref (md 7)) (C := RX5) (T := TX5) (N := 31) hx hb hts inX5 hown hK hP 2 rfl rfl 7 (by decide) f20 (fun _ h9 => h9) rfl dX5_slotAt_111 ?_
                  refine jv_iconst hx hb dX5_slotAt_114 ?_
                  refine lv_iload hx hb dX5_slotAt_115 (lv_at hl 8 rfl) ?_
                  refine jv_imul hx hb dX5_slotAt_117 ?_
                  refine jv_iconst hx hb dX5_slotAt_118 ?_
                  refine jv_iadd hx hb dX5_slotAt_119 ?_
                  refine jv_iald hx hb hK hP 3 0 rfl rfl (i := ((4 * i) + 2)) ⟨by omega, by omega⟩ (Nat.le_of_ble_eq_true rfl) dX5_slotAt_120 ?_
                  refine lv_aload_n hx hb dX5_slotAt_121 rfl (lv_at hl 1 rfl) ?_
                  refine va_get (D := D) (ci := 5) (v := .ref (md 7)) (C := RX5) (T := TX5) (N := 31) hx hb hts inX5 hown hK hP 2 rfl rfl 7 (by decide) f20 (fun _ h9 => h9) rfl dX5_slotAt_122 ?_
                  refine jv_iconst hx hb dX5_slotAt_125 ?_
                  refine lv_iload hx hb dX5_slotAt_126 (lv_at hl 8 rfl) ?_
                  refine jv_imul hx hb dX5_slotAt_128 ?_
                  refine jv_iald hx hb hK hP 3 0 rfl rfl (i := (4 * i)) ⟨by omega, by omega⟩ (Nat.le_of_ble_eq_true rfl) dX5_slotAt_129 ?_
                  refine jv_isub hx hb dX5_slotAt_130 ?_
                  refine lv_aload_n hx hb dX5_slotAt_131 rfl (lv_at hl 1 rfl) ?_
                  refine va_get (D := D) (ci := 5) (v := .ref (md 7)) (C := RX5) (T := TX5) (N := 31) hx hb hts inX5 hown hK hP 2 rfl rfl 7 (by decide) f20 (fun _ h9 => h9) rfl dX5_slotAt_132 ?_
                  refine jv_iconst hx hb dX5_slotAt_135 ?_
                  refine lv_iload hx hb dX5_slotAt_136 (lv_at hl 8 rfl) ?_
                  refine jv_imul hx hb dX5_slotAt_138 ?_
                  refine jv_iconst hx hb dX5_slotAt_139 ?_
                  refine jv_iadd hx hb dX5_slotAt_140 ?_
                  refine jv_iald hx hb hK hP 3 0 rfl rfl (i := ((4 * i) + 3)) ⟨by omega, by omega⟩ (Nat.le_of_ble_eq_true rfl) dX5_slotAt_141 ?_
                  refine lv_aload_n hx hb dX5_slotAt_142 rfl (lv_at hl 1 rfl) ?_
                  refine va_get (D := D) (ci := 5) (v := .ref (md 7)) (C := RX5) (T := TX5) (N := 31) hx hb hts inX5 hown hK hP 2 rfl rfl 7 (by decide) f20 (fun _ h9 => h9) rfl dX5_slotAt_143 ?_
                  refine jv_iconst hx hb dX5_slotAt_146 ?_
                  refine lv_iload hx hb dX5_slotAt_147 (lv_at hl 8 rfl) ?_
                  refine jv_imul hx hb dX5_slotAt_149 ?_
                  refine jv_iconst hx hb dX5_slotAt_150 ?_
                  refine jv_iadd hx hb dX5_slotAt_151 ?_
                  refine jv_iald hx hb hK hP 3 0 rfl rfl (i := ((4 * i) + 1)) ⟨by omega, by omega⟩ (Nat.le_of_ble_eq_true rfl) dX5_slotAt_152 ?_
                  refine jv_isub hx hb dX5_slotAt_153 ?_
                  refine jv_icmp_lt (tgt := 161) hx hb ⟨by omega, by omega⟩ ⟨by omega, by omega⟩ dX5_slotAt_154 (by decide) (fun c154 => ?_) (fun c154 => ?_)
                  · skip
                    refine jv_iconst hx hb dX5_slotAt_161 ?_
                    refine lv_istore (lv' := [(10, .int (jI 0)), (9, .int (jI sn9)), (0, .ref hm), (1, .int (jI layer)), (2, .long (jL v9)), (4, .int (jI k9)), (5, .int (jI sd)), (6, .int (jI v9)), (7, .int (jI lf)), (8, .int (jI i))]) hx hb dX5_slotAt_162 hl (by decide) rfl (fun ls hl => ?_)
                    refine lv_iload hx hb dX5_slotAt_164 (lv_at hl 7 rfl) ?_
                    refine lv_iload hx hb dX5_slotAt_166 (lv_at hl 8 rfl) ?_
                    refine lv_iload hx hb dX5_slotAt_168 (lv_at hl 7 rfl) ?_
                    refine jv_iconst hx hb dX5_slotAt_170 ?_
                    refine jv_iadd hx hb dX5_slotAt_171 ?_
                    refine jv_imul hx hb dX5_slotAt_172 ?_
                    refine jv_iadd hx hb dX5_slotAt_173 ?_
                    refine lv_istore (lv' := [(11, .int (jI (v9 + (lf * (v9 + 2))))), (10, .int (jI 0)), (9, .int (jI sn9)), (0, .ref hm), (1, .int (jI layer)), (2, .long (jL v9)), (4, .int (jI k9)), (5, .int (jI sd)), (6, .int (jI v9)), (7, .int (jI lf)), (8, .int (jI i))]) hx hb dX5_slotAt_174 hl (by decide) rfl (fun ls hl => ?_)
                    refine jv_iconst hx hb dX5_slotAt_176 ?_
                    refine lv_iload hx hb dX5_slotAt_177 (lv_at hl 10 rfl) ?_
                    refine jv_imul hx hb dX5_slotAt_179 ?_
                    refine lv_istore (lv' := [(12, .int (jI (4 * i))), (11, .int (jI (v9 + (lf * (v9 + 2))))), (10, .int (jI 0)), (9, .int (jI sn9)), (0, .ref hm), (1, .int (jI layer)), (2, .long (jL v9)), (4, .int (jI k9)), (5, .int (jI sd)), (6, .int (jI v9)), (7, .int (jI lf)), (8, .int (jI i))]) hx hb dX5_slotAt_180 hl (by decide) rfl (fun ls hl => ?_)
                    refine lv_iload hx hb dX5_slotAt_182 (lv_at hl 2 rfl) ?_
                    refine jv_if_eq (tgt := 262) hx hb ⟨by decide, by decide⟩ dX5_slotAt_184 (by decide) (fun c184 => ?_) (fun c184 => ?_)
                    · skip
                      refine lv_iload hx hb dX5_slotAt_262 (lv_at hl 8 rfl) ?_
                      refine jv_iconst hx hb dX5_slotAt_264 ?_
                      refine jv_icmp_ne (tgt := 283) hx hb ⟨by omega, by omega⟩ ⟨by decide, by decide⟩ dX5_slotAt_265 (by decide) (fun c265 => ?_) (fun c265 => ?_)
                      · skip
                        refine lv_iload hx hb dX5_slotAt_283 (lv_at hl 8 rfl) ?_
                        refine jv_iconst hx hb dX5_slotAt_285 ?_
                        refine jv_icmp_ne (tgt := 304) hx hb ⟨by omega, by omega⟩ ⟨by decide, by decide⟩ dX5_slotAt_286 (by decide) (fun c286 => ?_) (fun c286 => ?_)
                        · skip
                          refine lv_iload hx hb dX5_slotAt_304 (lv_at hl 8 rfl) ?_
                          refine jv_if_ne (tgt := 322) hx hb ⟨by omega, by omega⟩ dX5_slotAt_306 (by decide) (fun c306 => ?_) (fun c306 => ?_)
                          · skip
                            refine lv_aload_n hx hb dX5_slotAt_322 rfl (lv_at hl 4 rfl) ?_
                            refine va_get (D := D) (ci := 5) (v := .ref (md 7)) (C := RX5) (T := TX5) (N := 31) hx hb hts inX5 hown hK hP 2 rfl rfl 7 (by decide) f20 (fun _ h9 => h9) rfl dX5_slotAt_323 ?_
                            refine lv_iload hx hb dX5_slotAt_326 (lv_at hl 0 rfl) ?_
                            refine jv_iald hx hb hK hP 3 0 rfl rfl (i := (4 * i)) ⟨by omega, by omega⟩ (Nat.le_of_ble_eq_true rfl) dX5_slotAt_328 ?_
                            refine lv_iload hx hb dX5_slotAt_329 (lv_at hl 1 rfl) ?_
                            refine jv_iadd hx hb dX5_slotAt_331 ?_
                            refine jv_iconst hx hb dX5_slotAt_332 ?_
                            refine jv_iadd hx hb dX5_slotAt_333 ?_
                            exact hret (((bo (4 * i)) + (v9 + (lf * (v9 + 2)))) + 2) cv9 _ _ _ _ (by
                              have hsn2 : lf < slN q v9 := by omega
                              have hkb := (slN_bd hok2 (show 1 ≤ v9 by omega)).2.2 lf (by omega) hsn2
                              have hz9 := slAt_h (sd := sd) hi.1 hq (show q.2.1 = layer by omega) (by omega) hsn2
                              refine Or.inr (Or.inr ⟨by omega, by omega, by omega, ?_⟩)
                              rw [hs, hz9]
                              unfold slS
                              first
                              | (rw [if_neg (by omega)]; rw [if_pos (by omega)]; omega)
                              | (rw [if_neg (by omega)]; rw [if_neg (by omega), if_pos (by omega)]; omega)
                              | (rw [if_neg (by omega)]; rw [if_neg (by omega), if_neg (by omega), if_pos (by omega)]; omega)
                              | (rw [if_neg (by omega)]; rw [if_neg (by omega), if_neg (by omega), if_neg (by omega)]; omega)) (hP.sub [2, 0, 1, 3] rfl) (hD.sub [2, 0, 1, 3] (by decide) rfl) hS dX5_slotAt_334
                          · skip
                            refine lv_aload_n hx hb dX5_slotAt_309 rfl (lv_at hl 4 rfl) ?_
                            refine va_get (D := D) (ci := 5) (v := .ref (md 7)) (C := RX5) (T := TX5) (N := 31) hx hb hts inX5 hown hK hP 2 rfl rfl 7 (by decide) f20 (fun _ h9 => h9) rfl dX5_slotAt_310 ?_
                            refine lv_iload hx hb dX5_slotAt_313 (lv_at hl 0 rfl) ?_
                            refine jv_iald hx hb hK hP 3 0 rfl rfl (i := (4 * i)) ⟨by omega, by omega⟩ (Nat.le_of_ble_eq_true rfl) dX5_slotAt_315 ?_
                            refine lv_iload hx hb dX5_slotAt_316 (lv_at hl 1 rfl) ?_
                            refine jv_iadd hx hb dX5_slotAt_318 ?_
                            refine lv_goto (tgt := 334) hx hb dX5_slotAt_319 (by decide) ?_
                            exact hret ((bo (4 * i)) + (v9 + (lf * (v9 + 2)))) cv9 _ _ _ _ (by
                              have hsn2 : lf < slN q v9 := by omega
                              have hkb := (slN_bd hok2 (show 1 ≤ v9 by omega)).2.2 lf (by omega) hsn2
                              have hz9 := slAt_h (sd := sd) hi.1 hq (show q.2.1 = layer by omega) (by omega) hsn2
                              refine Or.inr (Or.inr ⟨by omega, by omega, by omega, ?_⟩)
                              rw [hs, hz9]
                              unfold slS
                              first
                              | (rw [if_neg (by omega)]; rw [if_pos (by omega)]; omega)
                              | (rw [if_neg (by omega)]; rw [if_neg (by omega), if_pos (by omega)]; omega)
                              | (rw [if_neg (by omega)]; rw [if_neg (by omega), if_neg (by omega), if_pos (by omega)]; omega)
                              | (rw [if_neg (by omega)]; rw [if_neg (by omega), if_neg (by omega), if_neg (by omega)]; omega)) (hP.sub [2, 0, 1, 3] rfl) (hD.sub [2, 0, 1, 3] (by decide) rfl) hS dX5_slotAt_334
                        · skip
                          refine lv_aload_n hx hb dX5_slotAt_289 rfl (lv_at hl 4 rfl) ?_
                          refine va_get (D := D) (ci := 5) (v := .ref (md 7)) (C := RX5) (T := TX5) (N := 31) hx hb hts inX5 hown hK hP 2 rfl rfl 7 (by decide) f20 (fun _ h9 => h9) rfl dX5_slotAt_290 ?_
                          refine lv_iload hx hb dX5_slotAt_293 (lv_at hl 0 rfl) ?_
                          refine jv_iconst hx hb dX5_slotAt_295 ?_
                          refine jv_iadd hx hb dX5_slotAt_296 ?_
                          refine jv_iald hx hb hK hP 3 0 rfl rfl (i := ((4 * i) + 3)) ⟨by omega, by omega⟩ (Nat.le_of_ble_eq_true rfl) dX5_slotAt_297 ?_
                          refine lv_iload hx hb dX5_slotAt_298 (lv_at hl 9 rfl) ?_
                          refine jv_isub hx hb dX5_slotAt_300 ?_
                          refine lv_goto (tgt := 334) hx hb dX5_slotAt_301 (by decide) ?_
                          exact hret ((bo ((4 * i) + 3)) - v9) cv9 _ _ _ _ (by
                            have hsn2 : lf < slN q v9 := by omega
                            have hkb := (slN_bd hok2 (show 1 ≤ v9 by omega)).2.2 lf (by omega) hsn2
                            have hz9 := slAt_h (sd := sd) hi.1 hq (show q.2.1 = layer by omega) (by omega) hsn2
                            refine Or.inr (Or.inr ⟨by omega, by omega, by omega, ?_⟩)
                            rw [hs, hz9]
                            unfold slS
                            first
                            | (rw [if_neg (by omega)]; rw [if_pos (by omega)]; omega)
                            | (rw [if_neg (by omega)]; rw [if_neg (by omega), if_pos (by omega)]; omega)
                            | (rw [if_neg (by omega)]; rw [if_neg (by omega), if_neg (by omega), if_pos (by omega)]; omega)
                            | (rw [if_neg (by omega)]; rw [if_neg (by omega), if_neg (by omega), if_neg (by omega)]; omega)) (hP.sub [2, 0, 1, 3] rfl) (hD.sub [2, 0, 1, 3] (by decide) rfl) hS dX5_slotAt_334
                      · skip
                        refine lv_aload_n hx hb dX5_slotAt_268 rfl (lv_at hl 4 rfl) ?_
                        refine va_get (D := D) (ci := 5) (v := .ref (md 7)) (C := RX5) (T := TX5) (N := 31) hx hb hts inX5 hown hK hP 2 rfl rfl 7 (by decide) f20 (fun _ h9 => h9) rfl dX5_slotAt_269 ?_
                        refine lv_iload hx hb dX5_slotAt_272 (lv_at hl 0 rfl) ?_
                        refine jv_iconst hx hb dX5_slotAt_274 ?_
                        refine jv_iadd hx hb dX5_slotAt_275 ?_
                        refine jv_iald hx hb hK hP 3 0 rfl rfl (i := ((4 * i) + 1)) ⟨by omega, by omega⟩ (Nat.le_of_ble_eq_true rfl) dX5_slotAt_276 ?_
                        refine lv_iload hx hb dX5_slotAt_277 (lv_at hl 9 rfl) ?_
                        refine jv_iadd hx hb dX5_slotAt_279 ?_
                        refine lv_goto (tgt := 334) hx hb dX5_slotAt_280 (by decide) ?_
                        exact hret ((bo ((4 * i) + 1)) + v9) cv9 _ _ _ _ (by
                          have hsn2 : lf < slN q v9 := by omega
                          have hkb := (slN_bd hok2 (show 1 ≤ v9 by omega)).2.2 lf (by omega) hsn2
                          have hz9 := slAt_h (sd := sd) hi.1 hq (show q.2.1 = layer by omega) (by omega) hsn2
                          refine Or.inr (Or.inr ⟨by omega, by omega, by omega, ?_⟩)
                          rw [hs, hz9]
                          unfold slS
                          first
                          | (rw [if_neg (by omega)]; rw [if_pos (by omega)]; omega)
                          | (rw [if_neg (by omega)]; rw [if_neg (by omega), if_pos (by omega)]; omega)
                          | (rw [if_neg (by omega)]; rw [if_neg (by omega), if_neg (by omega), if_pos (by omega)]; omega)
                          | (rw [if_neg (by omega)]; rw [if_neg (by omega), if_neg (by omega), if_neg (by omega)]; omega)) (hP.sub [2, 0, 1, 3] rfl) (hD.sub [2, 0, 1, 3] (by decide) rfl) hS dX5_slotAt_334
                    · skip
                      refine lv_iload hx hb dX5_slotAt_187 (lv_at hl 8 rfl) ?_
                      refine jv_if_ne (tgt := 205) hx hb ⟨by omega, by omega⟩ dX5_slotAt_189 (by decide) (fun c189 => ?_) (fun c189 => ?_)
                      · skip
                        refine lv_iload hx hb dX5_slotAt_205 (lv_at hl 8 rfl) ?_
                        refine jv_iconst hx hb dX5_slotAt_207 ?_
                        refine jv_icmp_ne (tgt := 226) hx hb ⟨by omega, by omega⟩ ⟨by decide, by decide⟩ dX5_slotAt_208 (by decide) (fun c208 => ?_) (fun c208 => ?_)
                        · skip
                          refine lv_iload hx hb dX5_slotAt_226 (lv_at hl 8 rfl) ?_
                          refine jv_iconst hx hb dX5_slotAt_228 ?_
                          refine jv_icmp_ne (tgt := 247) hx hb ⟨by omega, by omega⟩ ⟨by decide, by decide⟩ dX5_slotAt_229 (by decide) (fun c229 => ?_) (fun c229 => ?_)
                          · skip
                            refine lv_aload_n hx hb dX5_slotAt_247 rfl (lv_at hl 4 rfl) ?_
                            refine va_get (D := D) (ci := 5) (v := .ref (md 7)) (C := RX5) (T := TX5) (N := 31) hx hb hts inX5 hown hK hP 2 rfl rfl 7 (by decide) f20 (fun _ h9 => h9) rfl dX5_slotAt_248 ?_
                            refine lv_iload hx hb dX5_slotAt_251 (lv_at hl 0 rfl) ?_
                            refine jv_iconst hx hb dX5_slotAt_253 ?_
                            refine jv_iadd hx hb dX5_slotAt_254 ?_
                            refine jv_iald hx hb hK hP 3 0 rfl rfl (i := ((4 * i) + 1)) ⟨by omega, by omega⟩ (Nat.le_of_ble_eq_true rfl) dX5_slotAt_255 ?_
                            refine lv_iload hx hb dX5_slotAt_256 (lv_at hl 1 rfl) ?_
                            refine jv_iadd hx hb dX5_slotAt_258 ?_
                            refine jv_iconst hx hb dX5_slotAt_259 ?_
                            refine jv_iadd hx hb dX5_slotAt_260 ?_
                            exact hret (((bo ((4 * i) + 1)) + (v9 + (lf * (v9 + 2)))) + 2) cv9 _ _ _ _ (by
                              have hsn2 : lf < slN q v9 := by omega
                              have hkb := (slN_bd hok2 (show 1 ≤ v9 by omega)).2.2 lf (by omega) hsn2
                              have hz9 := slAt_h (sd := sd) hi.1 hq (show q.2.1 = layer by omega) (by omega) hsn2
                              refine Or.inr (Or.inr ⟨by omega, by omega, by omega, ?_⟩)
                              rw [hs, hz9]
                              unfold slS
                              first
                              | (rw [if_pos (by omega)]; rw [if_pos (by omega)]; omega)
                              | (rw [if_pos (by omega)]; rw [if_neg (by omega), if_pos (by omega)]; omega)
                              | (rw [if_pos (by omega)]; rw [if_neg (by omega), if_neg (by omega), if_pos (by omega)]; omega)
                              | (rw [if_pos (by omega)]; rw [if_neg (by omega), if_neg (by omega), if_neg (by omega)]; omega)) (hP.sub [2, 0, 1, 3] rfl) (hD.sub [2, 0, 1, 3] (by decide) rfl) hS dX5_slotAt_261
                          · skip
                            refine lv_aload_n hx hb dX5_slotAt_232 rfl (lv_at hl 4 rfl) ?_
                            refine va_get (D := D) (ci := 5) (v := .ref (md 7)) (C := RX5) (T := TX5) (N := 31) hx hb hts inX5 hown hK hP 2 rfl rfl 7 (by decide) f20 (fun _ h9 => h9) rfl dX5_slotAt_233 ?_
                            refine lv_iload hx hb dX5_slotAt_236 (lv_at hl 0 rfl) ?_
                            refine jv_iconst hx hb dX5_slotAt_238 ?_
                            refine jv_iadd hx hb dX5_slotAt_239 ?_
                            refine jv_iald hx hb hK hP 3 0 rfl rfl (i := ((4 * i) + 1)) ⟨by omega, by omega⟩ (Nat.le_of_ble_eq_true rfl) dX5_slotAt_240 ?_
                            refine lv_iload hx hb dX5_slotAt_241 (lv_at hl 1 rfl) ?_
                            refine jv_iadd hx hb dX5_slotAt_243 ?_
                            refine lv_goto (tgt := 261) hx hb dX5_slotAt_244 (by decide) ?_
                            exact hret ((bo ((4 * i) + 1)) + (v9 + (lf * (v9 + 2)))) cv9 _ _ _ _ (by
                              have hsn2 : lf < slN q v9 := by omega
                              have hkb := (slN_bd hok2 (show 1 ≤ v9 by omega)).2.2 lf (by omega) hsn2
                              have hz9 := slAt_h (sd := sd) hi.1 hq (show q.2.1 = layer by omega) (by omega) hsn2
                              refine Or.inr (Or.inr ⟨by omega, by omega, by omega, ?_⟩)
                              rw [hs, hz9]
                              unfold slS
                              first
                              | (rw [if_pos (by omega)]; rw [if_pos (by omega)]; omega)
                              | (rw [if_pos (by omega)]; rw [if_neg (by omega), if_pos (by omega)]; omega)
                              | (rw [if_pos (by omega)]; rw [if_neg (by omega), if_neg (by omega), if_pos (by omega)]; omega)
                              | (rw [if_pos (by omega)]; rw [if_neg (by omega), if_neg (by omega), if_neg (by omega)]; omega)) (hP.sub [2, 0, 1, 3] rfl) (hD.sub [2, 0, 1, 3] (by decide) rfl) hS dX5_slotAt_261
                        · skip
                          refine lv_aload_n hx hb dX5_slotAt_211 rfl (lv_at hl 4 rfl) ?_
                          refine va_get (D := D) (ci := 5) (v := .ref (md 7)) (C := RX5) (T := TX5) (N := 31) hx hb hts inX5 hown hK hP 2 rfl rfl 7 (by decide) f20 (fun _ h9 => h9) rfl dX5_slotAt_212 ?_
                          refine lv_iload hx hb dX5_slotAt_215 (lv_at hl 0 rfl) ?_
                          refine jv_iconst hx hb dX5_slotAt_217 ?_
                          refine jv_iadd hx hb dX5_slotAt_218 ?_
                          refine jv_iald hx hb hK hP 3 0 rfl rfl (i := ((4 * i) + 2)) ⟨by omega, by omega⟩ (Nat.le_of_ble_eq_true rfl) dX5_slotAt_219 ?_
                          refine lv_iload hx hb dX5_slotAt_220 (lv_at hl 9 rfl) ?_
                          refine jv_isub hx hb dX5_slotAt_222 ?_
                          refine lv_goto (tgt := 261) hx hb dX5_slotAt_223 (by decide) ?_
                          exact hret ((bo ((4 * i) + 2)) - v9) cv9 _ _ _ _ (by
                            have hsn2 : lf < slN q v9 := by omega
                            have hkb := (slN_bd hok2 (show 1 ≤ v9 by omega)).2.2 lf (by omega) hsn2
                            have hz9 := slAt_h (sd := sd) hi.1 hq (show q.2.1 = layer by omega) (by omega) hsn2
                            refine Or.inr (Or.inr ⟨by omega, by omega, by omega, ?_⟩)
                            rw [hs, hz9]
                            unfold slS
                            first
                            | (rw [if_pos (by omega)]; rw [if_pos (by omega)]; omega)
                            | (rw [if_pos (by omega)]; rw [if_neg (by omega), if_pos (by omega)]; omega)
                            | (rw [if_pos (by omega)]; rw [if_neg (by omega), if_neg (by omega), if_pos (by omega)]; omega)
                            | (rw [if_pos (by omega)]; rw [if_neg (by omega), if_neg (by omega), if_neg (by omega)]; omega)) (hP.sub [2, 0, 1, 3] rfl) (hD.sub [2, 0, 1, 3] (by decide) rfl) hS dX5_slotAt_261
                      · skip
                        refine lv_aload_n hx hb dX5_slotAt_192 rfl (lv_at hl 4 rfl) ?_
                        refine va_get (D := D) (ci := 5) (v := .ref (md 7)) (C := RX5) (T := TX5) (N := 31) hx hb hts inX5 hown hK hP 2 rfl rfl 7 (by decide) f20 (fun _ h9 => h9) rfl dX5_slotAt_193 ?_
                        refine lv_iload hx hb dX5_slotAt_196 (lv_at hl 0 rfl) ?_
                        refine jv_iald hx hb hK hP 3 0 rfl rfl (i := (4 * i)) ⟨by omega, by omega⟩ (Nat.le_of_ble_eq_true rfl) dX5_slotAt_198 ?_
                        refine lv_iload hx hb dX5_slotAt_199 (lv_at hl 9 rfl) ?_
                        refine jv_iadd hx hb dX5_slotAt_201 ?_
                        refine lv_goto (tgt := 261) hx hb dX5_slotAt_202 (by decide) ?_
                        exact hret ((bo (4 * i)) + v9) cv9 _ _ _ _ (by
                          have hsn2 : lf < slN q v9 := by omega
                          have hkb := (slN_bd hok2 (show 1 ≤ v9 by omega)).2.2 lf (by omega) hsn2
                          have hz9 := slAt_h (sd := sd) hi.1 hq (show q.2.1 = layer by omega) (by omega) hsn2
                          refine Or.inr (Or.inr ⟨by omega, by omega, by omega, ?_⟩)
                          rw [hs, hz9]
                          unfold slS
                          first
                          | (rw [if_pos (by omega)]; rw [if_pos (by omega)]; omega)
                          | (rw [if_pos (by omega)]; rw [if_neg (by omega), if_pos (by omega)]; omega)
                          | (rw [if_pos (by omega)]; rw [if_neg (by omega), if_neg (by omega), if_pos (by omega)]; omega)
                          | (rw [if_pos (by omega)]; rw [if_neg (by omega), if_neg (by omega), if_neg (by omega)]; omega)) (hP.sub [2, 0, 1, 3] rfl) (hD.sub [2, 0, 1, 3] (by decide) rfl) hS dX5_slotAt_261
                  · skip
                    refine jv_iconst hx hb dX5_slotAt_157 ?_
                    refine lv_goto (tgt := 162) hx hb dX5_slotAt_158 (by decide) ?_
                    refine lv_istore (lv' := [(10, .int (jI 1)), (9, .int (jI sn9)), (0, .ref hm), (1, .int (jI layer)), (2, .long (jL v9)), (4, .int (jI k9)), (5, .int (jI sd)), (6, .int (jI v9)), (7, .int (jI lf)), (8, .int (jI i))]) hx hb dX5_slotAt_162 hl (by decide) rfl (fun ls hl => ?_)
                    refine lv_iload hx hb dX5_slotAt_164 (lv_at hl 7 rfl) ?_
                    refine lv_iload hx hb dX5_slotAt_166 (lv_at hl 8 rfl) ?_
                    refine lv_iload hx hb dX5_slotAt_168 (lv_at hl 7 rfl) ?_
                    refine jv_iconst hx hb dX5_slotAt_170 ?_
                    refine jv_iadd hx hb dX5_slotAt_171 ?_
                    refine jv_imul hx hb dX5_slotAt_172 ?_
                    refine jv_iadd hx hb dX5_slotAt_173 ?_
                    refine lv_istore (lv' := [(11, .int (jI (v9 + (lf * (v9 + 2))))), (10, .int (jI 1)), (9, .int (jI sn9)), (0, .ref hm), (1, .int (jI layer)), (2, .long (jL v9)), (4, .int (jI k9)), (5, .int (jI sd)), (6, .int (jI v9)), (7, .int (jI lf)), (8, .int (jI i))]) hx hb dX5_slotAt_174 hl (by decide) rfl (fun ls hl => ?_)
                    refine jv_iconst hx hb dX5_slotAt_176 ?_
                    refine lv_iload hx hb dX5_slotAt_177 (lv_at hl 10 rfl) ?_
                    refine jv_imul hx hb dX5_slotAt_179 ?_
                    refine lv_istore (lv' := [(12, .int (jI (4 * i))), (11, .int (jI (v9 + (lf * (v9 + 2))))), (10, .int (jI 1)), (9, .int (jI sn9)), (0, .ref hm), (1, .int (jI layer)), (2, .long (jL v9)), (4, .int (jI k9)), (5, .int (jI sd)), (6, .int (jI v9)), (7, .int (jI lf)), (8, .int (jI i))]) hx hb dX5_slotAt_180 hl (by decide) rfl (fun ls hl => ?_)
                    refine lv_iload hx hb dX5_slotAt_182 (lv_at hl 2 rfl) ?_
                    refine jv_if_eq (tgt := 262) hx hb ⟨by decide, by decide⟩ dX5_slotAt_184 (by decide) (fun c184 => ?_) (fun c184 => ?_)
                    · skip
                      refine lv_iload hx hb dX5_slotAt_262 (lv_at hl 8 rfl) ?_
                      refine jv_iconst hx hb dX5_slotAt_264 ?_
                      refine jv_icmp_ne (tgt := 283) hx hb ⟨by omega, by omega⟩ ⟨by decide, by decide⟩ dX5_slotAt_265 (by decide) (fun c265 => ?_) (fun c265 => ?_)
                      · skip
                        refine lv_iload hx hb dX5_slotAt_283 (lv_at hl 8 rfl) ?_
                        refine jv_iconst hx hb dX5_slotAt_285 ?_
                        refine jv_icmp_ne (tgt := 304) hx hb ⟨by omega, by omega⟩ ⟨by decide, by decide⟩ dX5_slotAt_286 (by decide) (fun c286 => ?_) (fun c286 => ?_)
                        · skip
                          refine lv_iload hx hb dX5_slotAt_304 (lv_at hl 8 rfl) ?_
                          refine jv_if_ne (tgt := 322) hx hb ⟨by omega, by omega⟩ dX5_slotAt_306 (by decide) (fun c306 => ?_) (fun c306 => ?_)
                          · skip
                            refine lv_aload_n hx hb dX5_slotAt_322 rfl (lv_at hl 4 rfl) ?_
                            refine va_get (D := D) (ci := 5) (v := .ref (md 7)) (C := RX5) (T := TX5) (N := 31) hx hb hts inX5 hown hK hP 2 rfl rfl 7 (by decide) f20 (fun _ h9 => h9) rfl dX5_slotAt_323 ?_
                            refine lv_iload hx hb dX5_slotAt_326 (lv_at hl 0 rfl) ?_
                            refine jv_iald hx hb hK hP 3 0 rfl rfl (i := (4 * i)) ⟨by omega, by omega⟩ (Nat.le_of_ble_eq_true rfl) dX5_slotAt_328 ?_
                            refine lv_iload hx hb dX5_slotAt_329 (lv_at hl 1 rfl) ?_
                            refine jv_iadd hx hb dX5_slotAt_331 ?_
                            refine jv_iconst hx hb dX5_slotAt_332 ?_
                            refine jv_iadd hx hb dX5_slotAt_333 ?_
                            exact hret (((bo (4 * i)) + (v9 + (lf * (v9 + 2)))) + 2) cv9 _ _ _ _ (by
                              have hsn2 : lf < slN q v9 := by omega
                              have hkb := (slN_bd hok2 (show 1 ≤ v9 by omega)).2.2 lf (by omega) hsn2
                              have hz9 := slAt_h (sd := sd) hi.1 hq (show q.2.1 = layer by omega) (by omega) hsn2
                              refine Or.inr (Or.inr ⟨by omega, by omega, by omega, ?_⟩)
                              rw [hs, hz9]
                              unfold slS
                              first
                              | (rw [if_neg (by omega)]; rw [if_pos (by omega)]; omega)
                              | (rw [if_neg (by omega)]; rw [if_neg (by omega), if_pos (by omega)]; omega)
                              | (rw [if_neg (by omega)]; rw [if_neg (by omega), if_neg (by omega), if_pos (by omega)]; omega)
                              | (rw [if_neg (by omega)]; rw [if_neg (by omega), if_neg (by omega), if_neg (by omega)]; omega)) (hP.sub [2, 0, 1, 3] rfl) (hD.sub [2, 0, 1, 3] (by decide) rfl) hS dX5_slotAt_334
                          · skip
                            refine lv_aload_n hx hb dX5_slotAt_309 rfl (lv_at hl 4 rfl) ?_
                            refine va_get (D := D) (ci := 5) (v := .ref (md 7)) (C := RX5) (T := TX5) (N := 31) hx hb hts inX5 hown hK hP 2 rfl rfl 7 (by decide) f20 (fun _ h9 => h9) rfl dX5_slotAt_310 ?_
                            refine lv_iload hx hb dX5_slotAt_313 (lv_at hl 0 rfl) ?_
                            refine jv_iald hx hb hK hP 3 0 rfl rfl (i := (4 * i)) ⟨by omega, by omega⟩ (Nat.le_of_ble_eq_true rfl) dX5_slotAt_315 ?_
                            refine lv_iload hx hb dX5_slotAt_316 (lv_at hl 1 rfl) ?_
                            refine jv_iadd hx hb dX5_slotAt_318 ?_
                            refine lv_goto (tgt := 334) hx hb dX5_slotAt_319 (by decide) ?_
                            exact hret ((bo (4 * i)) + (v9 + (lf * (v9 + 2)))) cv9 _ _ _ _ (by
                              have hsn2 : lf < slN q v9 := by omega
                              have hkb := (slN_bd hok2 (show 1 ≤ v9 by omega)).2.2 lf (by omega) hsn2
                              have hz9 := slAt_h (sd := sd) hi.1 hq (show q.2.1 = layer by omega) (by omega) hsn2
                              refine Or.inr (Or.inr ⟨by omega, by omega, by omega, ?_⟩)
                              rw [hs, hz9]
                              unfold slS
                              first
                              | (rw [if_neg (by omega)]; rw [if_pos (by omega)]; omega)
                              | (rw [if_neg (by omega)]; rw [if_neg (by omega), if_pos (by omega)]; omega)
                              | (rw [if_neg (by omega)]; rw [if_neg (by omega), if_neg (by omega), if_pos (by omega)]; omega)
                              | (rw [if_neg (by omega)]; rw [if_neg (by omega), if_neg (by omega), if_neg (by omega)]; omega)) (hP.sub [2, 0, 1, 3] rfl) (hD.sub [2, 0, 1, 3] (by decide) rfl) hS dX5_slotAt_334
                        · skip
                          refine lv_aload_n hx hb dX5_slotAt_289 rfl (lv_at hl 4 rfl) ?_
                          refine va_get (D := D) (ci := 5) (v := .ref (md 7)) (C := RX5) (T := TX5) (N := 31) hx hb hts inX5 hown hK hP 2 rfl rfl 7 (by decide) f20 (fun _ h9 => h9) rfl dX5_slotAt_290 ?_
                          refine lv_iload hx hb dX5_slotAt_293 (lv_at hl 0 rfl) ?_
                          refine jv_iconst hx hb dX5_slotAt_295 ?_
                          refine jv_iadd hx hb dX5_slotAt_296 ?_
                          refine jv_iald hx hb hK hP 3 0 rfl rfl (i := ((4 * i) + 3)) ⟨by omega, by omega⟩ (Nat.le_of_ble_eq_true rfl) dX5_slotAt_297 ?_
                          refine lv_iload hx hb dX5_slotAt_298 (lv_at hl 9 rfl) ?_
                          refine jv_isub hx hb dX5_slotAt_300 ?_
                          refine lv_goto (tgt := 334) hx hb dX5_slotAt_301 (by decide) ?_
                          exact hret ((bo ((4 * i) + 3)) - v9) cv9 _ _ _ _ (by
                            have hsn2 : lf < slN q v9 := by omega
                            have hkb := (slN_bd hok2 (show 1 ≤ v9 by omega)).2.2 lf (by omega) hsn2
                            have hz9 := slAt_h (sd := sd) hi.1 hq (show q.2.1 = layer by omega) (by omega) hsn2
                            refine Or.inr (Or.inr ⟨by omega, by omega, by omega, ?_⟩)
                            rw [hs, hz9]
                            unfold slS
                            first
                            | (rw [if_neg (by omega)]; rw [if_pos (by omega)]; omega)
                            | (rw [if_neg (by omega)]; rw [if_neg (by omega), if_pos (by omega)]; omega)
                            | (rw [if_neg (by omega)]; rw [if_neg (by omega), if_neg (by omega), if_pos (by omega)]; omega)
                            | (rw [if_neg (by omega)]; rw [if_neg (by omega), if_neg (by omega), if_neg (by omega)]; omega)) (hP.sub [2, 0, 1, 3] rfl) (hD.sub [2, 0, 1, 3] (by decide) rfl) hS dX5_slotAt_334
                      · skip
                        refine lv_aload_n hx hb dX5_slotAt_268 rfl (lv_at hl 4 rfl) ?_
                        refine va_get (D := D) (ci := 5) (v := .ref (md 7)) (C := RX5) (T := TX5) (N := 31) hx hb hts inX5 hown hK hP 2 rfl rfl 7 (by decide) f20 (fun _ h9 => h9) rfl dX5_slotAt_269 ?_
                        refine lv_iload hx hb dX5_slotAt_272 (lv_at hl 0 rfl) ?_
                        refine jv_iconst hx hb dX5_slotAt_274 ?_
                        refine jv_iadd hx hb dX5_slotAt_275 ?_
                        refine jv_iald hx hb hK hP 3 0 rfl rfl (i := ((4 * i) + 1)) ⟨by omega, by omega⟩ (Nat.le_of_ble_eq_true rfl) dX5_slotAt_276 ?_
                        refine lv_iload hx hb dX5_slotAt_277 (lv_at hl 9 rfl) ?_
                        refine jv_iadd hx hb dX5_slotAt_279 ?_
                        refine lv_goto (tgt := 334) hx hb dX5_slotAt_280 (by decide) ?_
                        exact hret ((bo ((4 * i) + 1)) + v9) cv9 _ _ _ _ (by
                          have hsn2 : lf < slN q v9 := by omega
                          have hkb := (slN_bd hok2 (show 1 ≤ v9 by omega)).2.2 lf (by omega) hsn2
                          have hz9 := slAt_h (sd := sd) hi.1 hq (show q.2.1 = layer by omega) (by omega) hsn2
                          refine Or.inr (Or.inr ⟨by omega, by omega, by omega, ?_⟩)
                          rw [hs, hz9]
                          unfold slS
                          first
                          | (rw [if_neg (by omega)]; rw [if_pos (by omega)]; omega)
                          | (rw [if_neg (by omega)]; rw [if_neg (by omega), if_pos (by omega)]; omega)
                          | (rw [if_neg (by omega)]; rw [if_neg (by omega), if_neg (by omega), if_pos (by omega)]; omega)
                          | (rw [if_neg (by omega)]; rw [if_neg (by omega), if_neg (by omega), if_neg (by omega)]; omega)) (hP.sub [2, 0, 1, 3] rfl) (hD.sub [2, 0, 1, 3] (by decide) rfl) hS dX5_slotAt_334
                    · skip
                      refine lv_iload hx hb dX5_slotAt_187 (lv_at hl 8 rfl) ?_
                      refine jv_if_ne (tgt := 205) hx hb ⟨by omega, by omega⟩ dX5_slotAt_189 (by decide) (fun c189 => ?_) (fun c189 => ?_)
                      · skip
                        refine lv_iload hx hb dX5_slotAt_205 (lv_at hl 8 rfl) ?_
                        refine jv_iconst hx hb dX5_slotAt_207 ?_
                        refine jv_icmp_ne (tgt := 226) hx hb ⟨by omega, by omega⟩ ⟨by decide, by decide⟩ dX5_slotAt_208 (by decide) (fun c208 => ?_) (fun c208 => ?_)
                        · skip
                          refine lv_iload hx hb dX5_slotAt_226 (lv_at hl 8 rfl) ?_
                          refine jv_iconst hx hb dX5_slotAt_228 ?_
                          refine jv_icmp_ne (tgt := 247) hx hb ⟨by omega, by omega⟩ ⟨by decide, by decide⟩ dX5_slotAt_229 (by decide) (fun c229 => ?_) (fun c229 => ?_)
                          · skip
                            refine lv_aload_n hx hb dX5_slotAt_247 rfl (lv_at hl 4 rfl) ?_
                            refine va_get (D := D) (ci := 5) (v := .ref (md 7)) (C := RX5) (T := TX5) (N := 31) hx hb hts inX5 hown hK hP 2 rfl rfl 7 (by decide) f20 (fun _ h9 => h9) rfl dX5_slotAt_248 ?_
                            refine lv_iload hx hb dX5_slotAt_251 (lv_at hl 0 rfl) ?_
                            refine jv_iconst hx hb dX5_slotAt_253 ?_
                            refine jv_iadd hx hb dX5_slotAt_254 ?_
                            refine jv_iald hx hb hK hP 3 0 rfl rfl (i := ((4 * i) + 1)) ⟨by omega, by omega⟩ (Nat.le_of_ble_eq_true rfl) dX5_slotAt_255 ?_
                            refine lv_iload hx hb dX5_slotAt_256 (lv_at hl 1 rfl) ?_
                            refine jv_iadd hx hb dX5_slotAt_258 ?_
                            refine jv_iconst hx hb dX5_slotAt_259 ?_
                            refine jv_iadd hx hb dX5_slotAt_260 ?_
                            exact hret (((bo ((4 * i) + 1)) + (v9 + (lf * (v9 + 2)))) + 2) cv9 _ _ _ _ (by
                              have hsn2 : lf < slN q v9 := by omega
                              have hkb := (slN_bd hok2 (show 1 ≤ v9 by omega)).2.2 lf (by omega) hsn2
                              have hz9 := slAt_h (sd := sd) hi.1 hq (show q.2.1 = layer by omega) (by omega) hsn2
                              refine Or.inr (Or.inr ⟨by omega, by omega, by omega, ?_⟩)
                              rw [hs, hz9]
                              unfold slS
                              first
                              | (rw [if_pos (by omega)]; rw [if_pos (by omega)]; omega)
                              | (rw [if_pos (by omega)]; rw [if_neg (by omega), if_pos (by omega)]; omega)
                              | (rw [if_pos (by omega)]; rw [if_neg (by omega), if_neg (by omega), if_pos (by omega)]; omega)
                              | (rw [if_pos (by omega)]; rw [if_neg (by omega), if_neg (by omega), if_neg (by omega)]; omega)) (hP.sub [2, 0, 1, 3] rfl) (hD.sub [2, 0, 1, 3] (by decide) rfl) hS dX5_slotAt_261
                          · skip
                            refine lv_aload_n hx hb dX5_slotAt_232 rfl (lv_at hl 4 rfl) ?_
                            refine va_get (D := D) (ci := 5) (v := .ref (md 7)) (C := RX5) (T := TX5) (N := 31) hx hb hts inX5 hown hK hP 2 rfl rfl 7 (by decide) f20 (fun _ h9 => h9) rfl dX5_slotAt_233 ?_
                            refine lv_iload hx hb dX5_slotAt_236 (lv_at hl 0 rfl) ?_
                            refine jv_iconst hx hb dX5_slotAt_238 ?_
                            refine jv_iadd hx hb dX5_slotAt_239 ?_
                            refine jv_iald hx hb hK hP 3 0 rfl rfl (i := ((4 * i) + 1)) ⟨by omega, by omega⟩ (Nat.le_of_ble_eq_true rfl) dX5_slotAt_240 ?_
                            refine lv_iload hx hb dX5_slotAt_241 (lv_at hl 1 rfl) ?_
                            refine jv_iadd hx hb dX5_slotAt_243 ?_
                            refine lv_goto (tgt := 261) hx hb dX5_slotAt_244 (by decide) ?_
                            exact hret ((bo ((4 * i) + 1)) + (v9 + (lf * (v9 + 2)))) cv9 _ _ _ _ (by
                              have hsn2 : lf < slN q v9 := by omega
                              have hkb := (slN_bd hok2 (show 1 ≤ v9 by omega)).2.2 lf (by omega) hsn2
                              have hz9 := slAt_h (sd := sd) hi.1 hq (show q.2.1 = layer by omega) (by omega) hsn2
                              refine Or.inr (Or.inr ⟨by omega, by omega, by omega, ?_⟩)
                              rw [hs, hz9]
                              unfold slS
                              first
                              | (rw [if_pos (by omega)]; rw [if_pos (by omega)]; omega)
                              | (rw [if_pos (by omega)]; rw [if_neg (by omega), if_pos (by omega)]; omega)
                              | (rw [if_pos (by omega)]; rw [if_neg (by omega), if_neg (by omega), if_pos (by omega)]; omega)
                              | (rw [if_pos (by omega)]; rw [if_neg (by omega), if_neg (by omega), if_neg (by omega)]; omega)) (hP.sub [2, 0, 1, 3] rfl) (hD.sub [2, 0, 1, 3] (by decide) rfl) hS dX5_slotAt_261
                        · skip
                          refine lv_aload_n hx hb dX5_slotAt_211 rfl (lv_at hl 4 rfl) ?_
                          refine va_get (D := D) (ci := 5) (v := .ref (md 7)) (C := RX5) (T := TX5) (N := 31) hx hb hts inX5 hown hK hP 2 rfl rfl 7 (by decide) f20 (fun _ h9 => h9) rfl dX5_slotAt_212 ?_
                          refine lv_iload hx hb dX5_slotAt_215 (lv_at hl 0 rfl) ?_
                          refine jv_iconst hx hb dX5_slotAt_217 ?_
                          refine jv_iadd hx hb dX5_slotAt_218 ?_
                          refine jv_iald hx hb hK hP 3 0 rfl rfl (i := ((4 * i) + 2)) ⟨by omega, by omega⟩ (Nat.le_of_ble_eq_true rfl) dX5_slotAt_219 ?_
                          refine lv_iload hx hb dX5_slotAt_220 (lv_at hl 9 rfl) ?_
                          refine jv_isub hx hb dX5_slotAt_222 ?_
                          refine lv_goto (tgt := 261) hx hb dX5_slotAt_223 (by decide) ?_
                          exact hret ((bo ((4 * i) + 2)) - v9) cv9 _ _ _ _ (by
                            have hsn2 : lf < slN q v9 := by omega
                            have hkb := (slN_bd hok2 (show 1 ≤ v9 by omega)).2.2 lf (by omega) hsn2
                            have hz9 := slAt_h (sd := sd) hi.1 hq (show q.2.1 = layer by omega) (by omega) hsn2
                            refine Or.inr (Or.inr ⟨by omega, by omega, by omega, ?_⟩)
                            rw [hs, hz9]
                            unfold slS
                            first
                            | (rw [if_pos (by omega)]; rw [if_pos (by omega)]; omega)
                            | (rw [if_pos (by omega)]; rw [if_neg (by omega), if_pos (by omega)]; omega)
                            | (rw [if_pos (by omega)]; rw [if_neg (by omega), if_neg (by omega), if_pos (by omega)]; omega)
                            | (rw [if_pos (by omega)]; rw [if_neg (by omega), if_neg (by omega), if_neg (by omega)]; omega)) (hP.sub [2, 0, 1, 3] rfl) (hD.sub [2, 0, 1, 3] (by decide) rfl) hS dX5_slotAt_261
                      · skip
                        refine lv_aload_n hx hb dX5_slotAt_192 rfl (lv_at hl 4 rfl) ?_
                        refine va_get (D := D) (ci := 5) (v := .ref (md 7)) (C := RX5) (T := TX5) (N := 31) hx hb hts inX5 hown hK hP 2 rfl rfl 7 (by decide) f20 (fun _ h9 => h9) rfl dX5_slotAt_193 ?_
                        refine lv_iload hx hb dX5_slotAt_196 (lv_at hl 0 rfl) ?_
                        refine jv_iald hx hb hK hP 3 0 rfl rfl (i := (4 * i)) ⟨by omega, by omega⟩ (Nat.le_of_ble_eq_true rfl) dX5_slotAt_198 ?_
                        refine lv_iload hx hb dX5_slotAt_199 (lv_at hl 9 rfl) ?_
                        refine jv_iadd hx hb dX5_slotAt_201 ?_
                        refine lv_goto (tgt := 261) hx hb dX5_slotAt_202 (by decide) ?_
                        exact hret ((bo (4 * i)) + v9) cv9 _ _ _ _ (by
                          have hsn2 : lf < slN q v9 := by omega
                          have hkb := (slN_bd hok2 (show 1 ≤ v9 by omega)).2.2 lf (by omega) hsn2
                          have hz9 := slAt_h (sd := sd) hi.1 hq (show q.2.1 = layer by omega) (by omega) hsn2
                          refine Or.inr (Or.inr ⟨by omega, by omega, by omega, ?_⟩)
                          rw [hs, hz9]
                          unfold slS
                          first
                          | (rw [if_pos (by omega)]; rw [if_pos (by omega)]; omega)
                          | (rw [if_pos (by omega)]; rw [if_neg (by omega), if_pos (by omega)]; omega)
                          | (rw [if_pos (by omega)]; rw [if_neg (by omega), if_neg (by omega), if_pos (by omega)]; omega)
                          | (rw [if_pos (by omega)]; rw [if_neg (by omega), if_neg (by omega), if_neg (by omega)]; omega)) (hP.sub [2, 0, 1, 3] rfl) (hD.sub [2, 0, 1, 3] (by decide) rfl) hS dX5_slotAt_261
    refine va_put (D := D) (ci := 5) (v := .int (jI cv9)) (ty := .int) (C := RX5) (T := TX5) (N := 31) hx hb hts inX5 tyX5 tyX5_ok nmX5 hown hK hP hD hS 0 rfl rfl 0 (by decide) f84 (fun _ h9 => h9) rfl (by decide +kernel) rfl rfl (Nat.le_of_ble_eq_true rfl) dX5_slotAt_43 (fun H locs hP hD hS => ?_)
    have hP : va_P D jcl [(hm, .inr (5, [.int (jI cv9), .int (jI ly), .int (jI nt), .ref (md 3), .int (jI ns), .ref (md 5), .ref (md 6), .ref (md 7), .int (jI nd), .ref (md 9), .ref (md 10), .ref (md 11), .int (jI np), .ref (md 13), .ref (md 14), .ref (md 15), .ref (md 16), .ref (md 17), .ref (md 18), .ref (md 19), .ref (md 20), .int (jI nq), .ref (md 22), .ref (md 23), .ref (md 24), .ref (md 25), .ref (md 26), .int (jI tq), .ref (md 28), .ref (md 29), .ref (md 30)])), ((md 5), .inl (g.1, 200, .inl (aI sn))), ((md 6), .inl (g.1, 200, .inl (aI sl))), ((md 7), .inl (g.1, 800, .inl (aI bo)))] H := hP
    have hD : va_D A [(hm, .inr (5, [.int (jI cv9), .int (jI ly), .int (jI nt), .ref (md 3), .int (jI ns), .ref (md 5), .ref (md 6), .ref (md 7), .int (jI nd), .ref (md 9), .ref (md 10), .ref (md 11), .int (jI np), .ref (md 13), .ref (md 14), .ref (md 15), .ref (md 16), .ref (md 17), .ref (md 18), .ref (md 19), .ref (md 20), .int (jI nq), .ref (md 22), .ref (md 23), .ref (md 24), .ref (md 25), .ref (md 26), .int (jI tq), .ref (md 28), .ref (md 29), .ref (md 30)])), ((md 5), .inl (g.1, 200, .inl (aI sn))), ((md 6), .inl (g.1, 200, .inl (aI sl))), ((md 7), .inl (g.1, 800, .inl (aI bo)))] := hD
    refine lv_lload_n hx hb dX5_slotAt_46 rfl (lv_at hl 2 rfl) ?_
    refine jv_l2i hx hb dX5_slotAt_47 ?_
    refine lv_istore (lv' := [(6, .int (jI v9)), (0, .ref hm), (1, .int (jI layer)), (2, .long (jL v9)), (4, .int (jI k9)), (5, .int (jI sd))]) hx hb dX5_slotAt_48 hl (by decide) rfl (fun ls hl => ?_)
    refine lv_iload hx hb dX5_slotAt_50 (lv_at hl 4 rfl) ?_
    refine lv_istore (lv' := [(7, .int (jI k9)), (6, .int (jI v9)), (0, .ref hm), (1, .int (jI layer)), (2, .long (jL v9)), (4, .int (jI k9)), (5, .int (jI sd))]) hx hb dX5_slotAt_52 hl (by decide) rfl (fun ls hl => ?_)
    refine jv_iconst hx hb dX5_slotAt_54 ?_
    refine lv_istore (lv' := [(8, .int (jI 0)), (7, .int (jI k9)), (6, .int (jI v9)), (0, .ref hm), (1, .int (jI layer)), (2, .long (jL v9)), (4, .int (jI k9)), (5, .int (jI sd))]) hx hb dX5_slotAt_55 hl (by decide) rfl (fun ls hl => ?_)
    exact LS ((ns + 1 - 0).toNat + 1) 0 k9 (by omega) (by omega) (rfl) (by omega) _ _ _ (hP.sub [0, 1, 2, 3] rfl) (hD.sub [0, 1, 2, 3] (by decide) rfl) hS (lv_sub hl [3, 4, 5, 6, 7, 2, 1, 0] rfl)
  refine lv_aload_n hx hb dX5_slotAt_0 rfl (lv_at hl 0 rfl) ?_
  refine lv_aload_n hx hb dX5_slotAt_1 rfl (lv_at hl 0 rfl) ?_
  refine lv_iload_n hx hb dX5_slotAt_2 rfl (lv_at hl 1 rfl) ?_
  refine jc_Vi (As := [.int (jI layer)]) (rest := [.ref hm]) (wq := [((md 5), .inl (g.1, 200, .inl (aI sn))), ((md 6), .inl (g.1, 200, .inl (aI sl))), ((md 7), .inl (g.1, 800, .inl (aI bo)))]) ⟨hx, hb, hml, hown, hts⟩ (tX5_isLayer l D g hm md co ly nt ns nd np nq tq layer (⟨⟨by omega, by omega⟩, by omega, by omega⟩)) (cwV 1 hts gX5_slotAt_X5_isLayer rfl rfl rfl (by decide +kernel) ⟨Nat.le_of_ble_eq_true rfl, Nat.le_of_ble_eq_true rfl⟩) hK hP hD hS hA [0] [1, 2, 3] rfl rfl (by decide) (by decide) (by decide) (va_recv hK hP (ci := 5) (q0 := 0) rfl rfl) rfl rfl hl.1 (Nat.le_of_ble_eq_true rfl) dX5_slotAt_3 ⟨Nat.le_of_ble_eq_true rfl, Nat.le_of_ble_eq_true rfl⟩ (fun zl9 u H locs hu hP hD hS => ?_)
  have hu : (zl9 = 1 ∧ (0 ≤ layer ∧ layer < ly)) ∨ (zl9 = 0 ∧ ¬ (0 ≤ layer ∧ layer < ly)) := hu
  have hzl := hu
  have hP : va_P D jcl [((md 5), .inl (g.1, 200, .inl (aI sn))), ((md 6), .inl (g.1, 200, .inl (aI sl))), ((md 7), .inl (g.1, 800, .inl (aI bo))), (hm, .inr (5, [.int (jI co), .int (jI ly), .int (jI nt), .ref (md 3), .int (jI ns), .ref (md 5), .ref (md 6), .ref (md 7), .int (jI nd), .ref (md 9), .ref (md 10), .ref (md 11), .int (jI np), .ref (md 13), .ref (md 14), .ref (md 15), .ref (md 16), .ref (md 17), .ref (md 18), .ref (md 19), .ref (md 20), .int (jI nq), .ref (md 22), .ref (md 23), .ref (md 24), .ref (md 25), .ref (md 26), .int (jI tq), .ref (md 28), .ref (md 29), .ref (md 30)]))] H := hP
  have hD : va_D A [((md 5), .inl (g.1, 200, .inl (aI sn))), ((md 6), .inl (g.1, 200, .inl (aI sl))), ((md 7), .inl (g.1, 800, .inl (aI bo))), (hm, .inr (5, [.int (jI co), .int (jI ly), .int (jI nt), .ref (md 3), .int (jI ns), .ref (md 5), .ref (md 6), .ref (md 7), .int (jI nd), .ref (md 9), .ref (md 10), .ref (md 11), .int (jI np), .ref (md 13), .ref (md 14), .ref (md 15), .ref (md 16), .ref (md 17), .ref (md 18), .ref (md 19), .ref (md 20), .int (jI nq), .ref (md 22), .ref (md 23), .ref (md 24), .ref (md 25), .ref (md 26), .int (jI tq), .ref (md 28), .ref (md 29), .ref (md 30)]))] := hD
  refine jv_if_eq (tgt := 20) hx hb ⟨by omega, by omega⟩ dX5_slotAt_6 (by decide) (fun c6 => ?_) (fun c6 => ?_)
  · skip
    refine jv_iconst hx hb dX5_slotAt_20 ?_
    refine lv_goto (tgt := 43) hx hb dX5_slotAt_21 (by decide) ?_
    exact JC 1 (by omega) _ _ _ (hP.sub [3, 0, 1, 2] rfl) (hD.sub [3, 0, 1, 2] (by decide) rfl) hS (lv_sub hl [0, 1, 2, 3, 4] rfl)
  · skip
    refine lv_iload hx hb dX5_slotAt_9 (lv_at hl 4 rfl) ?_
    refine jv_if_lt (tgt := 20) hx hb ⟨by omega, by omega⟩ dX5_slotAt_11 (by decide) (fun c11 => ?_) (fun c11 => ?_)
    · skip
      refine jv_iconst hx hb dX5_slotAt_20 ?_
      refine lv_goto (tgt := 43) hx hb dX5_slotAt_21 (by decide) ?_
      exact JC 1 (by omega) _ _ _ (hP.sub [3, 0, 1, 2] rfl) (hD.sub [3, 0, 1, 2] (by decide) rfl) hS (lv_sub hl [0, 1, 2, 3, 4] rfl)
    · skip
      refine lv_iload hx hb dX5_slotAt_14 (lv_at hl 4 rfl) ?_
      refine jv_iconst hx hb dX5_slotAt_16 ?_
      refine jv_icmp_le (tgt := 24) hx hb ⟨by omega, by omega⟩ ⟨by decide, by decide⟩ dX5_slotAt_17 (by decide) (fun c17 => ?_) (fun c17 => ?_)
      · skip
        refine lv_lload_n hx hb dX5_slotAt_24 rfl (lv_at hl 2 rfl) ?_
        refine jv_lconst1 hx hb dX5_slotAt_25 ?_
        refine jv_lcmp_lt (tgt := 38) hx hb ⟨by omega, by omega⟩ ⟨by decide, by decide⟩ dX5_slotAt_26 dX5_slotAt_27 (by decide) (fun c26 => ?_) (fun c26 => ?_)
        · skip
          refine jv_iconst hx hb dX5_slotAt_38 ?_
          refine lv_goto (tgt := 43) hx hb dX5_slotAt_39 (by decide) ?_
          exact JC 2 (by omega) _ _ _ (hP.sub [3, 0, 1, 2] rfl) (hD.sub [3, 0, 1, 2] (by decide) rfl) hS (lv_sub hl [0, 1, 2, 3, 4] rfl)
        · skip
          refine lv_lload_n hx hb dX5_slotAt_30 rfl (lv_at hl 2 rfl) ?_
          refine jv_ldc2 (n := 400) hx hb (by decide) hown k219 dX5_slotAt_31 ?_
          refine jv_lcmp_le (tgt := 42) hx hb ⟨by omega, by omega⟩ ⟨by decide, by decide⟩ dX5_slotAt_34 dX5_slotAt_35 (by decide) (fun c34 => ?_) (fun c34 => ?_)
          · skip
            refine jv_iconst hx hb dX5_slotAt_42 ?_
            exact JC 0 (by omega) _ _ _ (hP.sub [3, 0, 1, 2] rfl) (hD.sub [3, 0, 1, 2] (by decide) rfl) hS (lv_sub hl [0, 1, 2, 3, 4] rfl)
          · skip
            refine jv_iconst hx hb dX5_slotAt_38 ?_
            refine lv_goto (tgt := 43) hx hb dX5_slotAt_39 (by decide) ?_
            exact JC 2 (by omega) _ _ _ (hP.sub [3, 0, 1, 2] rfl) (hD.sub [3, 0, 1, 2] (by decide) rfl) hS (lv_sub hl [0, 1, 2, 3, 4] rfl)
      · skip
        refine jv_iconst hx hb dX5_slotAt_20 ?_
        refine lv_goto (tgt := 43) hx hb dX5_slotAt_21 (by decide) ?_
        exact JC 1 (by omega) _ _ _ (hP.sub [3, 0, 1, 2] rfl) (hD.sub [3, 0, 1, 2] (by decide) rfl) hS (lv_sub hl [0, 1, 2, 3, 4] rfl)

set_option maxHeartbeats 4000000 in
set_option maxRecDepth 100000 in
/-- piece -/
theorem tX5_piece (l : Launch) (D : va_G) (g : ClassId × ClassId × ClassId) (hm : Nat) (md : Nat → Nat) (co : Int) (ly : Int) (nt : Int) (ns : Int) (nd : Int) (np : Int) (nq : Int) (tq : Int) (rl : Int → Int) (rx : Int → Int) (ry : Int → Int) (rs : Int → Int) (LP : List jQ) (layer : Int) (k9 : Int) (axis : Int) (hmp : mpI rl rx ry rs nq LP) (hnq : nq ≤ 1500) (hly : 1 ≤ ly ∧ ly ≤ 64) (hri : rI layer ∧ rI k9 ∧ rI axis) : jMl l D g yX5_piece wsX5_piece 2 60 [.ref hm, .int (jI layer), .int (jI k9), .int (jI axis)] [(hm, .inr (5, [.int (jI co), .int (jI ly), .int (jI nt), .ref (md 3), .int (jI ns), .ref (md 5), .ref (md 6), .ref (md 7), .int (jI nd), .ref (md 9), .ref (md 10), .ref (md 11), .int (jI np), .ref (md 13), .ref (md 14), .ref (md 15), .ref (md 16), .ref (md 17), .ref (md 18), .ref (md 19), .ref (md 20), .int (jI nq), .ref (md 22), .ref (md 23), .ref (md 24), .ref (md 25), .ref (md 26), .int (jI tq), .ref (md 28), .ref (md 29), .ref (md 30)])), ((md 22), .inl (g.1, 1500, .inl (aI rl))), ((md 23), .inl (g.1, 1500, .inl (aI rx))), ((md 24), .inl (g.1, 1500, .inl (aI ry))), ((md 25), .inl (g.1, 1500, .inl (aI rs)))] (S := Int) (fun z u => (u = 1 ∧ ¬ ((0 ≤ layer ∧ layer < ly) ∧ 0 ≤ k9 ∧ k9 < ((LP.filter (onL layer)).length : Int) ∧ 0 ≤ axis ∧ axis < 2)) ∨ (u = 0 ∧ ((0 ≤ layer ∧ layer < ly) ∧ 0 ≤ k9 ∧ k9 < ((LP.filter (onL layer)).length : Int) ∧ 0 ≤ axis ∧ axis < 2) ∧ ∃ q : jQ, (LP.filter (onL layer))[Int.toNat k9]? = some q ∧ z = jL (if axis = 0 then q.2.2.1 else q.2.2.2.1))) (fun u => [(hm, .inr (5, [.int (jI u), .int (jI ly), .int (jI nt), .ref (md 3), .int (jI ns), .ref (md 5), .ref (md 6), .ref (md 7), .int (jI nd), .ref (md 9), .ref (md 10), .ref (md 11), .int (jI np), .ref (md 13), .ref (md 14), .ref (md 15), .ref (md 16), .ref (md 17), .ref (md 18), .ref (md 19), .ref (md 20), .int (jI nq), .ref (md 22), .ref (md 23), .ref (md 24), .ref (md 25), .ref (md 26), .int (jI tq), .ref (md 28), .ref (md 29), .ref (md 30)])), ((md 22), .inl (g.1, 1500, .inl (aI rl))), ((md 23), .inl (g.1, 1500, .inl (aI rx))), ((md 24), .inl (g.1, 1500, .inl (aI ry))), ((md 25), .inl (g.1, 1500, .inl (aI rs)))]) := by
  refine jMl_of (cc := cX5_piece) (maxL := 6) (by decide) rfl (Nat.le_of_ble_eq_true rfl) ?_
  intro p e s m args below meth c Q A hx hb hml hts hown hK hA hret ls hl hP hD
  have hS : va_S A s.heap s.heap [] := va_S.rf
  have hown : s.vm.findClass RX5 = some m.cls := hown
  have f56 := hts (.fieldLink RX5 56 "AntennaFillModel" "pieceLayer" "[I") (by decide +kernel)
  have f59 := hts (.fieldLink RX5 59 "AntennaFillModel" "pieceX" "[I") (by decide +kernel)
  have f62 := hts (.fieldLink RX5 62 "AntennaFillModel" "pieceY" "[I") (by decide +kernel)
  have f84 := hts (.fieldLink RX5 84 "AntennaFillModel" "code" "I") (by decide +kernel)
  have f165 := hts (.fieldLink RX5 165 "AntennaFillModel" "pieces" "I") (by decide +kernel)
  have inX5 : ∀ w ∈ wsX50, w ∈ wsX5_piece := by decide +kernel
  have hl : lv_has ls 6 [(0, .ref hm), (1, .int (jI layer)), (2, .int (jI k9)), (3, .int (jI axis))] := hl
  have hlen3 := hmp.1
  have JC : ∀ (cv9 : Int), ((cv9 = 1 ∧ ¬ ((0 ≤ layer ∧ layer < ly) ∧ 0 ≤ k9 ∧ 0 ≤ axis ∧ axis < 2)) ∨ (cv9 = 0 ∧ ((0 ≤ layer ∧ layer < ly) ∧ 0 ≤ k9 ∧ 0 ≤ axis ∧ axis < 2))) → ∀ (H : Heap) (locs : List Loc) (ls : Array Slot), va_P D jcl [(hm, .inr (5, [.int (jI co), .int (jI ly), .int (jI nt), .ref (md 3), .int (jI ns), .ref (md 5), .ref (md 6), .ref (md 7), .int (jI nd), .ref (md 9), .ref (md 10), .ref (md 11), .int (jI np), .ref (md 13), .ref (md 14), .ref (md 15), .ref (md 16), .ref (md 17), .ref (md 18), .ref (md 19), .ref (md 20), .int (jI nq), .ref (md 22), .ref (md 23), .ref (md 24), .ref (md 25), .ref (md 26), .int (jI tq), .ref (md 28), .ref (md 29), .ref (md 30)])), ((md 22), .inl (g.1, 1500, .inl (aI rl))), ((md 23), .inl (g.1, 1500, .inl (aI rx))), ((md 24), .inl (g.1, 1500, .inl (aI ry))), ((md 25), .inl (g.1, 1500, .inl (aI rs)))] H → va_D A [(hm, .inr (5, [.int (jI co), .int (jI ly), .int (jI nt), .ref (md 3), .int (jI ns), .ref (md 5), .ref (md 6), .ref (md 7), .int (jI nd), .ref (md 9), .ref (md 10), .ref (md 11), .int (jI np), .ref (md 13), .ref (md 14), .ref (md 15), .ref (md 16), .ref (md 17), .ref (md 18), .ref (md 19), .ref (md 20), .int (jI nq), .ref (md 22), .ref (md 23), .ref (md 24), .ref (md 25), .ref (md 26), .int (jI tq), .ref (md 28), .ref (md 29), .ref (md 30)])), ((md 22), .inl (g.1, 1500, .inl (aI rl))), ((md 23), .inl (g.1, 1500, .inl (aI rx))), ((md 24), .inl (g.1, 1500, .inl (aI ry))), ((md 25), .inl (g.1, 1500, .inl (aI rs)))] → va_S A s.heap H locs → lv_has ls 6 [(0, .ref hm), (1, .int (jI layer)), (2, .int (jI k9)), (3, .int (jI axis))] → W p l e (jR 2 60) s m args below meth c H locs 0 0 Q (F0 m 27 ls [.int (jI cv9), .ref hm]) := by
    intro cv9 hcv H locs ls hP hD hS hl
    have LS : ∀ (fuel : Nat) (i : Int) (lf : Int), (0 ≤ i ∧ i ≤ nq) → (-2147483648 ≤ lf ∧ lf ≤ 2147483647 ∧ (cv9 = 0 → 0 ≤ lf ∧ k9 = (((pre LP i).filter (onL layer)).length : Int) + lf)) → (nq + 1 - i < (fuel : Int)) → ∀ (H : Heap) (locs : List Loc) (ls : Array Slot), va_P D jcl [(hm, .inr (5, [.int (jI cv9), .int (jI ly), .int (jI nt), .ref (md 3), .int (jI ns), .ref (md 5), .ref (md 6), .ref (md 7), .int (jI nd), .ref (md 9), .ref (md 10), .ref (md 11), .int (jI np), .ref (md 13), .ref (md 14), .ref (md 15), .ref (md 16), .ref (md 17), .ref (md 18), .ref (md 19), .ref (md 20), .int (jI nq), .ref (md 22), .ref (md 23), .ref (md 24), .ref (md 25), .ref (md 26), .int (jI tq), .ref (md 28), .ref (md 29), .ref (md 30)])), ((md 22), .inl (g.1, 1500, .inl (aI rl))), ((md 23), .inl (g.1, 1500, .inl (aI rx))), ((md 24), .inl (g.1, 1500, .inl (aI ry))), ((md 25), .inl (g.1, 1500, .inl (aI rs)))] H → va_D A [(hm, .inr (5, [.int (jI cv9), .int (jI ly), .int (jI nt), .ref (md 3), .int (jI ns), .ref (md 5), .ref (md 6), .ref (md 7), .int (jI nd), .ref (md 9), .ref (md 10), .ref (md 11), .int (jI np), .ref (md 13), .ref (md 14), .ref (md 15), .ref (md 16), .ref (md 17), .ref (md 18), .ref (md 19), .ref (md 20), .int (jI nq), .ref (md 22), .ref (md 23), .ref (md 24), .ref (md 25), .ref (md 26), .int (jI tq), .ref (md 28), .ref (md 29), .ref (md 30)])), ((md 22), .inl (g.1, 1500, .inl (aI rl))), ((md 23), .inl (g.1, 1500, .inl (aI rx))), ((md 24), .inl (g.1, 1500, .inl (aI ry))), ((md 25), .inl (g.1, 1500, .inl (aI rs)))] → va_S A s.heap H locs → lv_has ls 6 [(0, .ref hm), (1, .int (jI layer)), (2, .int (jI k9)), (3, .int (jI axis)), (4, .int (jI lf)), (5, .int (jI i))] → W p l e (jR 2 60) s m args below meth c H locs 0 0 Q (F0 m 36 ls []) := by
      intro fuel
      induction fuel with
      | zero =>
        intro i lf hi hlf hfu
        exfalso; omega
      | succ fuel ihLS =>
        intro i lf hi hlf hfu H locs ls hP hD hS hl
        refine lv_iload hx hb dX5_piece_36 (lv_at hl 5 rfl) ?_
        refine lv_aload_n hx hb dX5_piece_38 rfl (lv_at hl 0 rfl) ?_
        refine va_get (D := D) (ci := 5) (v := .int (jI nq)) (C := RX5) (T := TX5) (N := 31) hx hb hts inX5 hown hK hP 0 rfl rfl 21 (by decide) f165 (fun _ h9 => h9) rfl dX5_piece_39 ?_
        refine jv_icmp_ge (tgt := 101) hx hb ⟨by omega, by omega⟩ ⟨by omega, by omega⟩ dX5_piece_42 (by decide) (fun c42 => ?_) (fun c42 => ?_)
        · skip
          refine lv_aload_n hx hb dX5_piece_101 rfl (lv_at hl 0 rfl) ?_
          refine jv_iconst hx hb dX5_piece_102 ?_
          refine va_put (D := D) (ci := 5) (v := .int (jI 1)) (ty := .int) (C := RX5) (T := TX5) (N := 31) hx hb hts inX5 tyX5 tyX5_ok nmX5 hown hK hP hD hS 0 rfl rfl 0 (by decide) f84 (fun _ h9 => h9) rfl (by decide +kernel) rfl rfl (Nat.le_of_ble_eq_true rfl) dX5_piece_103 (fun H locs hP hD hS => ?_)
          have hP : va_P D jcl [(hm, .inr (5, [.int (jI 1), .int (jI ly), .int (jI nt), .ref (md 3), .int (jI ns), .ref (md 5), .ref (md 6), .ref (md 7), .int (jI nd), .ref (md 9), .ref (md 10), .ref (md 11), .int (jI np), .ref (md 13), .ref (md 14), .ref (md 15), .ref (md 16), .ref (md 17), .ref (md 18), .ref (md 19), .ref (md 20), .int (jI nq), .ref (md 22), .ref (md 23), .ref (md 24), .ref (md 25), .ref (md 26), .int (jI tq), .ref (md 28), .ref (md 29), .ref (md 30)])), ((md 22), .inl (g.1, 1500, .inl (aI rl))), ((md 23), .inl (g.1, 1500, .inl (aI rx))), ((md 24), .inl (g.1, 1500, .inl (aI ry))), ((md 25), .inl (g.1, 1500, .inl (aI rs)))] H := hP
          have hD : va_D A [(hm, .inr (5, [.int (jI 1), .int (jI ly), .int (jI nt), .ref (md 3), .int (jI ns), .ref (md 5), .ref (md 6), .ref (md 7), .int (jI nd), .ref (md 9), .ref (md 10), .ref (md 11), .int (jI np), .ref (md 13), .ref (md 14), .ref (md 15), .ref (md 16), .ref (md 17), .ref (md 18), .ref (md 19), .ref (md 20), .int (jI nq), .ref (md 22), .ref (md 23), .ref (md 24), .ref (md 25), .ref (md 26), .int (jI tq), .ref (md 28), .ref (md 29), .ref (md 30)])), ((md 22), .inl (g.1, 1500, .inl (aI rl))), ((md 23), .inl (g.1, 1500, .inl (aI rx))), ((md 24), .inl (g.1, 1500, .inl (aI ry))), ((md 25), .inl (g.1, 1500, .inl (aI rs)))] := hD
          refine jv_lconst0 hx hb dX5_piece_106 ?_
          exact hret (jL 0) 1 _ _ _ _ (by
            refine Or.inl ⟨rfl, fun q9 => ?_⟩
            have f5 := hlf.2.2
            have hall := pre_all (L := LP) (i := i)
            rcases hcv with q8 | q8
            · exact q8.2 ⟨q9.1, q9.2.1, q9.2.2.2⟩
            · have f4 := f5 q8.1
              rw [hall (by omega)] at f4
              omega) (hP.sub [0, 1, 2, 3, 4] rfl) (hD.sub [0, 1, 2, 3, 4] (by decide) rfl) hS dX5_piece_107
        · skip
          obtain ⟨q, hq, e1, e2, e3, e4, e5, hok⟩ := mp_at hmp (k := i) ⟨hi.1, by omega⟩
          have hok2 := hok
          unfold okQ at hok
          refine lv_aload_n hx hb dX5_piece_45 rfl (lv_at hl 0 rfl) ?_
          refine va_get (D := D) (ci := 5) (v := .int (jI cv9)) (C := RX5) (T := TX5) (N := 31) hx hb hts inX5 hown hK hP 0 rfl rfl 0 (by decide) f84 (fun _ h9 => h9) rfl dX5_piece_46 ?_
          refine jv_if_ne (tgt := 101) hx hb ⟨by omega, by omega⟩ dX5_piece_49 (by decide) (fun c49 => ?_) (fun c49 => ?_)
          · skip
            refine lv_aload_n hx hb dX5_piece_101 rfl (lv_at hl 0 rfl) ?_
            refine jv_iconst hx hb dX5_piece_102 ?_
            refine va_put (D := D) (ci := 5) (v := .int (jI 1)) (ty := .int) (C := RX5) (T := TX5) (N := 31) hx hb hts inX5 tyX5 tyX5_ok nmX5 hown hK hP hD hS 0 rfl rfl 0 (by decide) f84 (fun _ h9 => h9) rfl (by decide +kernel) rfl rfl (Nat.le_of_ble_eq_true rfl) dX5_piece_103 (fun H locs hP hD hS => ?_)
            have hP : va_P D jcl [(hm, .inr (5, [.int (jI 1), .int (jI ly), .int (jI nt), .ref (md 3), .int (jI ns), .ref (md 5), .ref (md 6), .ref (md 7), .int (jI nd), .ref (md 9), .ref (md 10), .ref (md 11), .int (jI np), .ref (md 13), .ref (md 14), .ref (md 15), .ref (md 16), .ref (md 17), .ref (md 18), .ref (md 19), .ref (md 20), .int (jI nq), .ref (md 22), .ref (md 23), .ref (md 24), .ref (md 25), .ref (md 26), .int (jI tq), .ref (md 28), .ref (md 29), .ref (md 30)])), ((md 22), .inl (g.1, 1500, .inl (aI rl))), ((md 23), .inl (g.1, 1500, .inl (aI rx))), ((md 24), .inl (g.1, 1500, .inl (aI ry))), ((md 25), .inl (g.1, 1500, .inl (aI rs)))] H := hP
            have hD : va_D A [(hm, .inr (5, [.int (jI 1), .int (jI ly), .int (jI nt), .ref (md 3), .int (jI ns), .ref (md 5), .ref (md 6), .ref (md 7), .int (jI nd), .ref (md 9), .ref (md 10), .ref (md 11), .int (jI np), .ref (md 13), .ref (md 14), .ref (md 15), .ref (md 16), .ref (md 17), .ref (md 18), .ref (md 19), .ref (md 20), .int (jI nq), .ref (md 22), .ref (md 23), .ref (md 24), .ref (md 25), .ref (md 26), .int (jI tq), .ref (md 28), .ref (md 29), .ref (md 30)])), ((md 22), .inl (g.1, 1500, .inl (aI rl))), ((md 23), .inl (g.1, 1500, .inl (aI rx))), ((md 24), .inl (g.1, 1500, .inl (aI ry))), ((md 25), .inl (g.1, 1500, .inl (aI rs)))] := hD
            refine jv_lconst0 hx hb dX5_piece_106 ?_
            exact hret (jL 0) 1 _ _ _ _ (by
              refine Or.inl ⟨rfl, fun q9 => ?_⟩
              have f5 := hlf.2.2
              have hall := pre_all (L := LP) (i := i)
              rcases hcv with q8 | q8
              · exact q8.2 ⟨q9.1, q9.2.1, q9.2.2.2⟩
              · have f4 := f5 q8.1
                rw [hall (by omega)] at f4
                omega) (hP.sub [0, 1, 2, 3, 4] rfl) (hD.sub [0, 1, 2, 3, 4] (by decide) rfl) hS dX5_piece_107
          · skip
            refine lv_aload_n hx hb dX5_piece_52 rfl (lv_at hl 0 rfl) ?_
            refine va_get (D := D) (ci := 5) (v := .ref (md 22)) (C := RX5) (T := TX5) (N := 31) hx hb hts inX5 hown hK hP 0 rfl rfl 22 (by decide) f56 (fun _ h9 => h9) rfl dX5_piece_53 ?_
            refine lv_iload hx hb dX5_piece_56 (lv_at hl 5 rfl) ?_
            refine jv_iald hx hb hK hP 1 0 rfl rfl (i := i) ⟨by omega, by omega⟩ (Nat.le_of_ble_eq_true rfl) dX5_piece_58 ?_
            refine lv_iload_n hx hb dX5_piece_59 rfl (lv_at hl 1 rfl) ?_
            refine jv_icmp_ne (tgt := 95) hx hb ⟨by omega, by omega⟩ ⟨by omega, by omega⟩ dX5_piece_60 (by decide) (fun c60 => ?_) (fun c60 => ?_)
            · skip
              refine jv_iinc (lv2 := [(5, .int (jI (i + 1))), (0, .ref hm), (1, .int (jI layer)), (2, .int (jI k9)), (3, .int (jI axis)), (4, .int (jI lf))]) hx hb dX5_piece_95 hl (k := 5) rfl (by decide) rfl (fun ls hl => ?_)
              refine lv_goto (tgt := 36) hx hb dX5_piece_98 (by decide) ?_
              exact ihLS (i + 1) lf (by omega) (by
                obtain ⟨f1, f2, f3⟩ := hlf
                have f4 := f3 (by omega)
                refine ⟨by omega, by omega, fun _ => ⟨by omega, ?_⟩⟩
                first
                | (rw [flt_n _ hi.1 hq (onL_f (by omega))]; omega)
                | (rw [flt_s _ hi.1 hq (onL_t (by omega)), List.length_append, List.length_singleton]; omega)) (by omega) _ _ _ (hP.sub [0, 1, 2, 3, 4] rfl) (hD.sub [0, 1, 2, 3, 4] (by decide) rfl) hS (lv_sub hl [1, 2, 3, 4, 5, 0] rfl)
            · skip
              refine lv_iload hx hb dX5_piece_63 (lv_at hl 4 rfl) ?_
              refine jv_if_ne (tgt := 92) hx hb ⟨by omega, by omega⟩ dX5_piece_65 (by decide) (fun c65 => ?_) (fun c65 => ?_)
              · skip
                refine jv_iinc (lv2 := [(4, .int (jI (lf + (-1)))), (0, .ref hm), (1, .int (jI layer)), (2, .int (jI k9)), (3, .int (jI axis)), (5, .int (jI i))]) hx hb dX5_piece_92 hl (k := 4) rfl (by decide) rfl (fun ls hl => ?_)
                refine jv_iinc (lv2 := [(5, .int (jI (i + 1))), (4, .int (jI (lf + (-1)))), (0, .ref hm), (1, .int (jI layer)), (2, .int (jI k9)), (3, .int (jI axis))]) hx hb dX5_piece_95 hl (k := 5) rfl (by decide) rfl (fun ls hl => ?_)
                refine lv_goto (tgt := 36) hx hb dX5_piece_98 (by decide) ?_
                exact ihLS (i + 1) (lf + (-1)) (by omega) (by
                  obtain ⟨f1, f2, f3⟩ := hlf
                  have f4 := f3 (by omega)
                  refine ⟨by omega, by omega, fun _ => ⟨by omega, ?_⟩⟩
                  first
                  | (rw [flt_n _ hi.1 hq (onL_f (by omega))]; omega)
                  | (rw [flt_s _ hi.1 hq (onL_t (by omega)), List.length_append, List.length_singleton]; omega)) (by omega) _ _ _ (hP.sub [0, 1, 2, 3, 4] rfl) (hD.sub [0, 1, 2, 3, 4] (by decide) rfl) hS (lv_sub hl [2, 3, 4, 5, 1, 0] rfl)
              · skip
                refine lv_iload_n hx hb dX5_piece_68 rfl (lv_at hl 3 rfl) ?_
                refine jv_if_ne (tgt := 83) hx hb ⟨by omega, by omega⟩ dX5_piece_69 (by decide) (fun c69 => ?_) (fun c69 => ?_)
                · skip
                  refine lv_aload_n hx hb dX5_piece_83 rfl (lv_at hl 0 rfl) ?_
                  refine va_get (D := D) (ci := 5) (v := .ref (md 24)) (C := RX5) (T := TX5) (N := 31) hx hb hts inX5 hown hK hP 0 rfl rfl 24 (by decide) f62 (fun _ h9 => h9) rfl dX5_piece_84 ?_
                  refine lv_iload hx hb dX5_piece_87 (lv_at hl 5 rfl) ?_
                  refine jv_iald hx hb hK hP 3 0 rfl rfl (i := i) ⟨by omega, by omega⟩ (Nat.le_of_ble_eq_true rfl) dX5_piece_89 ?_
                  refine jv_i2l hx hb ⟨by omega, by omega⟩ dX5_piece_90 ?_
                  exact hret (jL (ry i)) cv9 _ _ _ _ (by
                    have f4 := hlf.2.2 (by omega)
                    have hfa := flt_at (onL layer) hq (onL_t (by omega))
                    have hlt := (List.getElem?_eq_some_iff.mp hfa).1
                    have hpe : ((LP.take i.toNat).filter (onL layer)).length = k9.toNat := by
                      have : (pre LP i) = LP.take i.toNat := rfl
                      rw [this] at f4
                      omega
                    rw [hpe] at hfa hlt
                    refine Or.inr ⟨by omega, ⟨by omega, by omega, by omega, by omega⟩, q, hfa, ?_⟩
                    first
                    | (rw [if_pos c69, ← e2])
                    | (rw [if_neg c69, ← e3])) (hP.sub [0, 1, 2, 3, 4] rfl) (hD.sub [0, 1, 2, 3, 4] (by decide) rfl) hS dX5_piece_91
                · skip
                  refine lv_aload_n hx hb dX5_piece_72 rfl (lv_at hl 0 rfl) ?_
                  refine va_get (D := D) (ci := 5) (v := .ref (md 23)) (C := RX5) (T := TX5) (N := 31) hx hb hts inX5 hown hK hP 0 rfl rfl 23 (by decide) f59 (fun _ h9 => h9) rfl dX5_piece_73 ?_
                  refine lv_iload hx hb dX5_piece_76 (lv_at hl 5 rfl) ?_
                  refine jv_iald hx hb hK hP 2 0 rfl rfl (i := i) ⟨by omega, by omega⟩ (Nat.le_of_ble_eq_true rfl) dX5_piece_78 ?_
                  refine jv_i2l hx hb ⟨by omega, by omega⟩ dX5_piece_79 ?_
                  refine lv_goto (tgt := 91) hx hb dX5_piece_80 (by decide) ?_
                  exact hret (jL (rx i)) cv9 _ _ _ _ (by
                    have f4 := hlf.2.2 (by omega)
                    have hfa := flt_at (onL layer) hq (onL_t (by omega))
                    have hlt := (List.getElem?_eq_some_iff.mp hfa).1
                    have hpe : ((LP.take i.toNat).filter (onL layer)).length = k9.toNat := by
                      have : (pre LP i) = LP.take i.toNat := rfl
                      rw [this] at f4
                      omega
                    rw [hpe] at hfa hlt
                    refine Or.inr ⟨by omega, ⟨by omega, by omega, by omega, by omega⟩, q, hfa, ?_⟩
                    first
                    | (rw [if_pos c69, ← e2])
                    | (rw [if_neg c69, ← e3])) (hP.sub [0, 1, 2, 3, 4] rfl) (hD.sub [0, 1, 2, 3, 4] (by decide) rfl) hS dX5_piece_91
    refine va_put (D := D) (ci := 5) (v := .int (jI cv9)) (ty := .int) (C := RX5) (T := TX5) (N := 31) hx hb hts inX5 tyX5 tyX5_ok nmX5 hown hK hP hD hS 0 rfl rfl 0 (by decide) f84 (fun _ h9 => h9) rfl (by decide +kernel) rfl rfl (Nat.le_of_ble_eq_true rfl) dX5_piece_27 (fun H locs hP hD hS => ?_)
    have hP : va_P D jcl [(hm, .inr (5, [.int (jI cv9), .int (jI ly), .int (jI nt), .ref (md 3), .int (jI ns), .ref (md 5), .ref (md 6), .ref (md 7), .int (jI nd), .ref (md 9), .ref (md 10), .ref (md 11), .int (jI np), .ref (md 13), .ref (md 14), .ref (md 15), .ref (md 16), .ref (md 17), .ref (md 18), .ref (md 19), .ref (md 20), .int (jI nq), .ref (md 22), .ref (md 23), .ref (md 24), .ref (md 25), .ref (md 26), .int (jI tq), .ref (md 28), .ref (md 29), .ref (md 30)])), ((md 22), .inl (g.1, 1500, .inl (aI rl))), ((md 23), .inl (g.1, 1500, .inl (aI rx))), ((md 24), .inl (g.1, 1500, .inl (aI ry))), ((md 25), .inl (g.1, 1500, .inl (aI rs)))] H := hP
    have hD : va_D A [(hm, .inr (5, [.int (jI cv9), .int (jI ly), .int (jI nt), .ref (md 3), .int (jI ns), .ref (md 5), .ref (md 6), .ref (md 7), .int (jI nd), .ref (md 9), .ref (md 10), .ref (md 11), .int (jI np), .ref (md 13), .ref (md 14), .ref (md 15), .ref (md 16), .ref (md 17), .ref (md 18), .ref (md 19), .ref (md 20), .int (jI nq), .ref (md 22), .ref (md 23), .ref (md 24), .ref (md 25), .ref (md 26), .int (jI tq), .ref (md 28), .ref (md 29), .ref (md 30)])), ((md 22), .inl (g.1, 1500, .inl (aI rl))), ((md 23), .inl (g.1, 1500, .inl (aI rx))), ((md 24), .inl (g.1, 1500, .inl (aI ry))), ((md 25), .inl (g.1, 1500, .inl (aI rs)))] := hD
    refine lv_iload_n hx hb dX5_piece_30 rfl (lv_at hl 2 rfl) ?_
    refine lv_istore (lv' := [(4, .int (jI k9)), (0, .ref hm), (1, .int (jI layer)), (2, .int (jI k9)), (3, .int (jI axis))]) hx hb dX5_piece_31 hl (by decide) rfl (fun ls hl => ?_)
    refine jv_iconst hx hb dX5_piece_33 ?_
    refine lv_istore (lv' := [(5, .int (jI 0)), (4, .int (jI k9)), (0, .ref hm), (1, .int (jI layer)), (2, .int (jI k9)), (3, .int (jI axis))]) hx hb dX5_piece_34 hl (by decide) rfl (fun ls hl => ?_)
    exact LS ((nq + 1 - 0).toNat + 1) 0 k9 (by omega) (⟨by omega, by omega, fun _ => ⟨by omega, by rw [pre_0]; show k9 = (0 : Nat) + k9; omega⟩⟩) (by omega) _ _ _ (hP.sub [0, 1, 2, 3, 4] rfl) (hD.sub [0, 1, 2, 3, 4] (by decide) rfl) hS (lv_sub hl [2, 3, 4, 5, 1, 0] rfl)
  refine lv_aload_n hx hb dX5_piece_0 rfl (lv_at hl 0 rfl) ?_
  refine lv_aload_n hx hb dX5_piece_1 rfl (lv_at hl 0 rfl) ?_
  refine lv_iload_n hx hb dX5_piece_2 rfl (lv_at hl 1 rfl) ?_
  refine jc_Vi (As := [.int (jI layer)]) (rest := [.ref hm]) (wq := [((md 22), .inl (g.1, 1500, .inl (aI rl))), ((md 23), .inl (g.1, 1500, .inl (aI rx))), ((md 24), .inl (g.1, 1500, .inl (aI ry))), ((md 25), .inl (g.1, 1500, .inl (aI rs)))]) ⟨hx, hb, hml, hown, hts⟩ (tX5_isLayer l D g hm md co ly nt ns nd np nq tq layer (⟨⟨by omega, by omega⟩, by omega, by omega⟩)) (cwV 1 hts gX5_piece_X5_isLayer rfl rfl rfl (by decide +kernel) ⟨Nat.le_of_ble_eq_true rfl, Nat.le_of_ble_eq_true rfl⟩) hK hP hD hS hA [0] [1, 2, 3, 4] rfl rfl (by decide) (by decide) (by decide) (va_recv hK hP (ci := 5) (q0 := 0) rfl rfl) rfl rfl hl.1 (Nat.le_of_ble_eq_true rfl) dX5_piece_3 ⟨Nat.le_of_ble_eq_true rfl, Nat.le_of_ble_eq_true rfl⟩ (fun zl9 u H locs hu hP hD hS => ?_)
  have hu : (zl9 = 1 ∧ (0 ≤ layer ∧ layer < ly)) ∨ (zl9 = 0 ∧ ¬ (0 ≤ layer ∧ layer < ly)) := hu
  have hzl := hu
  have hP : va_P D jcl [((md 22), .inl (g.1, 1500, .inl (aI rl))), ((md 23), .inl (g.1, 1500, .inl (aI rx))), ((md 24), .inl (g.1, 1500, .inl (aI ry))), ((md 25), .inl (g.1, 1500, .inl (aI rs))), (hm, .inr (5, [.int (jI co), .int (jI ly), .int (jI nt), .ref (md 3), .int (jI ns), .ref (md 5), .ref (md 6), .ref (md 7), .int (jI nd), .ref (md 9), .ref (md 10), .ref (md 11), .int (jI np), .ref (md 13), .ref (md 14), .ref (md 15), .ref (md 16), .ref (md 17), .ref (md 18), .ref (md 19), .ref (md 20), .int (jI nq), .ref (md 22), .ref (md 23), .ref (md 24), .ref (md 25), .ref (md 26), .int (jI tq), .ref (md 28), .ref (md 29), .ref (md 30)]))] H := hP
  have hD : va_D A [((md 22), .inl (g.1, 1500, .inl (aI rl))), ((md 23), .inl (g.1, 1500, .inl (aI rx))), ((md 24), .inl (g.1, 1500, .inl (aI ry))), ((md 25), .inl (g.1, 1500, .inl (aI rs))), (hm, .inr (5, [.int (jI co), .int (jI ly), .int (jI nt), .ref (md 3), .int (jI ns), .ref (md 5), .ref (md 6), .ref (md 7), .int (jI nd), .ref (md 9), .ref (md 10), .ref (md 11), .int (jI np), .ref (md 13), .ref (md 14), .ref (md 15), .ref (md 16), .ref (md 17), .ref (md 18), .ref (md 19), .ref (md 20), .int (jI nq), .ref (md 22), .ref (md 23), .ref (md 24), .ref (md 25), .ref (md 26), .int (jI tq), .ref (md 28), .ref (md 29), .ref (md 30)]))] := hD
  refine jv_if_eq (tgt := 22) hx hb ⟨by omega, by omega⟩ dX5_piece_6 (by decide) (fun c6 => ?_) (fun c6 => ?_)
  · skip
    refine jv_iconst hx hb dX5_piece_22 ?_
    refine lv_goto (tgt := 27) hx hb dX5_piece_23 (by decide) ?_
    exact JC 1 (by omega) _ _ _ (hP.sub [4, 0, 1, 2, 3] rfl) (hD.sub [4, 0, 1, 2, 3] (by decide) rfl) hS (lv_sub hl [0, 1, 2, 3] rfl)
  · skip
    refine lv_iload_n hx hb dX5_piece_9 rfl (lv_at hl 3 rfl) ?_
    refine jv_if_lt (tgt := 22) hx hb ⟨by omega, by omega⟩ dX5_piece_10 (by decide) (fun c10 => ?_) (fun c10 => ?_)
    · skip
      refine jv_iconst hx hb dX5_piece_22 ?_
      refine lv_goto (tgt := 27) hx hb dX5_piece_23 (by decide) ?_
      exact JC 1 (by omega) _ _ _ (hP.sub [4, 0, 1, 2, 3] rfl) (hD.sub [4, 0, 1, 2, 3] (by decide) rfl) hS (lv_sub hl [0, 1, 2, 3] rfl)
    · skip
      refine lv_iload_n hx hb dX5_piece_13 rfl (lv_at hl 3 rfl) ?_
      refine jv_iconst hx hb dX5_piece_14 ?_
      refine jv_icmp_gt (tgt := 22) hx hb ⟨by omega, by omega⟩ ⟨by decide, by decide⟩ dX5_piece_15 (by decide) (fun c15 => ?_) (fun c15 => ?_)
      · skip
        refine jv_iconst hx hb dX5_piece_22 ?_
        refine lv_goto (tgt := 27) hx hb dX5_piece_23 (by decide) ?_
        exact JC 1 (by omega) _ _ _ (hP.sub [4, 0, 1, 2, 3] rfl) (hD.sub [4, 0, 1, 2, 3] (by decide) rfl) hS (lv_sub hl [0, 1, 2, 3] rfl)
      · skip
        refine lv_iload_n hx hb dX5_piece_18 rfl (lv_at hl 2 rfl) ?_
        refine jv_if_ge (tgt := 26) hx hb ⟨by omega, by omega⟩ dX5_piece_19 (by decide) (fun c19 => ?_) (fun c19 => ?_)
        · skip
          refine jv_iconst hx hb dX5_piece_26 ?_
          exact JC 0 (by omega) _ _ _ (hP.sub [4, 0, 1, 2, 3] rfl) (hD.sub [4, 0, 1, 2, 3] (by decide) rfl) hS (lv_sub hl [0, 1, 2, 3] rfl)
        · skip
          refine jv_iconst hx hb dX5_piece_22 ?_
          refine lv_goto (tgt := 27) hx hb dX5_piece_23 (by decide) ?_
          exact JC 1 (by omega) _ _ _ (hP.sub [4, 0, 1, 2, 3] rfl) (hD.sub [4, 0, 1, 2, 3] (by decide) rfl) hS (lv_sub hl [0, 1, 2, 3] rfl)

set_option maxHeartbeats 4000000 in
set_option maxRecDepth 100000 in
/-- diode -/
theorem tX5_diode (l : Launch) (D : va_G) (g : ClassId × ClassId × ClassId) (hm : Nat) (md : Nat → Nat) (co : Int) (ly : Int) (nt : Int) (ns : Int) (nd : Int) (np : Int) (nq : Int) (tq : Int) (tn : Int → Int) (tl : Int → Int) (ta : Int → Int) (TD : List (Int × Int × Int)) (qn : Int → Int) (qs : Int → Int) (qx : Int → Int) (qy : Int → Int) (DD : List jD) (net : Int) (layer : Int) (v9 : Int) (hmt : mtI tn tl ta nd TD) (hnd : nd ≤ 100) (hmd : mdI qn qs qx qy np DD) (hnp : np ≤ 60) (hd2 : ∀ d ∈ DD, 0 ≤ d.2 ∧ d.2 < 64) (hnt : 0 ≤ nt ∧ nt ≤ 40) (hly : 1 ≤ ly ∧ ly ≤ 64) (hri : rI net ∧ rI layer ∧ rL v9) : jMi l D g yX5_diode wsX5_diode 2 80 [.ref hm, .int (jI net), .int (jI layer), .long (jL v9)] [(hm, .inr (5, [.int (jI co), .int (jI ly), .int (jI nt), .ref (md 3), .int (jI ns), .ref (md 5), .ref (md 6), .ref (md 7), .int (jI nd), .ref (md 9), .ref (md 10), .ref (md 11), .int (jI np), .ref (md 13), .ref (md 14), .ref (md 15), .ref (md 16), .ref (md 17), .ref (md 18), .ref (md 19), .ref (md 20), .int (jI nq), .ref (md 22), .ref (md 23), .ref (md 24), .ref (md 25), .ref (md 26), .int (jI tq), .ref (md 28), .ref (md 29), .ref (md 30)])), ((md 9), .inl (g.1, 100, .inl (aI tn))), ((md 10), .inl (g.1, 100, .inl (aI tl))), ((md 11), .inl (g.2.1, 100, .inr (.inl (aL ta)))), ((md 13), .inl (g.1, 60, .inl (aI qn))), ((md 14), .inl (g.1, 60, .inl (aI qs))), ((md 15), .inl (g.1, 60, .inl (aI qx))), ((md 16), .inl (g.1, 60, .inl (aI qy)))] (S := Int × Int × (Int → Int) × (Int → Int) × (Int → Int)) (fun z u => (((u.1 = 1 ∧ ¬ ((0 ≤ net ∧ net < nt) ∧ (0 ≤ layer ∧ layer < ly))) ∨ (u.1 = 2 ∧ ((0 ≤ net ∧ net < nt) ∧ (0 ≤ layer ∧ layer < ly)) ∧ nd = 100) ∨ (u.1 = 3 ∧ ((0 ≤ net ∧ net < nt) ∧ (0 ≤ layer ∧ layer < ly)) ∧ nd < 100 ∧ ¬ (1 ≤ v9 ∧ v9 ≤ 1000000))) ∧ u.2.1 = nd ∧ u.2.2.1 = tn ∧ u.2.2.2.1 = tl ∧ u.2.2.2.2 = ta) ∨ (u.1 = 0 ∧ ((0 ≤ net ∧ net < nt) ∧ (0 ≤ layer ∧ layer < ly)) ∧ nd < 100 ∧ (1 ≤ v9 ∧ v9 ≤ 1000000) ∧ u.2.1 = nd + 1 ∧ mtI u.2.2.1 u.2.2.2.1 u.2.2.2.2 u.2.1 (TD ++ [(net, layer, v9)]) ∧ ((z = 1 ∧ dX TD DD net layer = 0) ∨ (z = 0 ∧ dX TD DD net layer ≠ 0)))) (fun u => [(hm, .inr (5, [.int (jI u.1), .int (jI ly), .int (jI nt), .ref (md 3), .int (jI ns), .ref (md 5), .ref (md 6), .ref (md 7), .int (jI u.2.1), .ref (md 9), .ref (md 10), .ref (md 11), .int (jI np), .ref (md 13), .ref (md 14), .ref (md 15), .ref (md 16), .ref (md 17), .ref (md 18), .ref (md 19), .ref (md 20), .int (jI nq), .ref (md 22), .ref (md 23), .ref (md 24), .ref (md 25), .ref (md 26), .int (jI tq), .ref (md 28), .ref (md 29), .ref (md 30)])), ((md 9), .inl (g.1, 100, .inl (aI u.2.2.1))), ((md 10), .inl (g.1, 100, .inl (aI u.2.2.2.1))), ((md 11), .inl (g.2.1, 100, .inr (.inl (aL u.2.2.2.2)))), ((md 13), .inl (g.1, 60, .inl (aI qn))), ((md 14), .inl (g.1, 60, .inl (aI qs))), ((md 15), .inl (g.1, 60, .inl (aI qx))), ((md 16), .inl (g.1, 60, .inl (aI qy)))]) := by
  refine jMz_of (cc := cX5_diode) (maxL := 7) (by decide) rfl (Nat.le_of_ble_eq_true rfl) ?_
  intro p e s m args below meth c Q A hx hb hml hts hown hK hA hret ls hl hP hD
  have hS : va_S A s.heap s.heap [] := va_S.rf
  have hown : s.vm.findClass RX5 = some m.cls := hown
  have f23 := hts (.fieldLink RX5 23 "AntennaFillModel" "diodeNet" "[I") (by decide +kernel)
  have f26 := hts (.fieldLink RX5 26 "AntennaFillModel" "diodeLayer" "[I") (by decide +kernel)
  have f29 := hts (.fieldLink RX5 29 "AntennaFillModel" "diodeArea" "[J") (by decide +kernel)
  have f32 := hts (.fieldLink RX5 32 "AntennaFillModel" "placedNet" "[I") (by decide +kernel)
  have f35 := hts (.fieldLink RX5 35 "AntennaFillModel" "placedLayer" "[I") (by decide +kernel)
  have f84 := hts (.fieldLink RX5 84 "AntennaFillModel" "code" "I") (by decide +kernel)
  have f136 := hts (.fieldLink RX5 136 "AntennaFillModel" "diodes" "I") (by decide +kernel)
  have f139 := hts (.fieldLink RX5 139 "AntennaFillModel" "placed" "I") (by decide +kernel)
  have inX5 : ∀ w ∈ wsX50, w ∈ wsX5_diode := by decide +kernel
  have k132 := hts (.constantLong RX5 132 (1000000)) (by decide +kernel)
  have hl : lv_has ls 7 [(0, .ref hm), (1, .int (jI net)), (2, .int (jI layer)), (3, .long (jL v9))] := hl
  have hl1 := hmt.1
  have hl2 := hmd.1
  have JC : ∀ (cv9 : Int), ((cv9 = 1 ∧ ¬ ((0 ≤ net ∧ net < nt) ∧ (0 ≤ layer ∧ layer < ly))) ∨ (cv9 = 2 ∧ ((0 ≤ net ∧ net < nt) ∧ (0 ≤ layer ∧ layer < ly)) ∧ nd = 100) ∨ (cv9 = 3 ∧ ((0 ≤ net ∧ net < nt) ∧ (0 ≤ layer ∧ layer < ly)) ∧ nd < 100 ∧ ¬ (1 ≤ v9 ∧ v9 ≤ 1000000)) ∨ (cv9 = 0 ∧ ((0 ≤ net ∧ net < nt) ∧ (0 ≤ layer ∧ layer < ly)) ∧ nd < 100 ∧ (1 ≤ v9 ∧ v9 ≤ 1000000))) → ∀ (H : Heap) (locs : List Loc) (ls : Array Slot), va_P D jcl [(hm, .inr (5, [.int (jI co), .int (jI ly), .int (jI nt), .ref (md 3), .int (jI ns), .ref (md 5), .ref (md 6), .ref (md 7), .int (jI nd), .ref (md 9), .ref (md 10), .ref (md 11), .int (jI np), .ref (md 13), .ref (md 14), .ref (md 15), .ref (md 16), .ref (md 17), .ref (md 18), .ref (md 19), .ref (md 20), .int (jI nq), .ref (md 22), .ref (md 23), .ref (md 24), .ref (md 25), .ref (md 26), .int (jI tq), .ref (md 28), .ref (md 29), .ref (md 30)])), ((md 9), .inl (g.1, 100, .inl (aI tn))), ((md 10), .inl (g.1, 100, .inl (aI tl))), ((md 11), .inl (g.2.1, 100, .inr (.inl (aL ta)))), ((md 13), .inl (g.1, 60, .inl (aI qn))), ((md 14), .inl (g.1, 60, .inl (aI qs))), ((md 15), .inl (g.1, 60, .inl (aI qx))), ((md 16), .inl (g.1, 60, .inl (aI qy)))] H → va_D A [(hm, .inr (5, [.int (jI co), .int (jI ly), .int (jI nt), .ref (md 3), .int (jI ns), .ref (md 5), .ref (md 6), .ref (md 7), .int (jI nd), .ref (md 9), .ref (md 10), .ref (md 11), .int (jI np), .ref (md 13), .ref (md 14), .ref (md 15), .ref (md 16), .ref (md 17), .ref (md 18), .ref (md 19), .ref (md 20), .int (jI nq), .ref (md 22), .ref (md 23), .ref (md 24), .ref (md 25), .ref (md 26), .int (jI tq), .ref (md 28), .ref (md 29), .ref (md 30)])), ((md 9), .inl (g.1, 100, .inl (aI tn))), ((md 10), .inl (g.1, 100, .inl (aI tl))), ((md 11), .inl (g.2.1, 100, .inr (.inl (aL ta)))), ((md 13), .inl (g.1, 60, .inl (aI qn))), ((md 14), .inl (g.1, 60, .inl (aI qs))), ((md 15), .inl (g.1, 60, .inl (aI qx))), ((md 16), .inl (g.1, 60, .inl (aI qy)))] → va_S A s.heap H locs → lv_has ls 7 [(0, .ref hm), (1, .int (jI net)), (2, .int (jI layer)), (3, .long (jL v9))] → W p l e (jR 2 80) s m args below meth c H locs 0 0 Q (F0 m 53 ls [.int (jI cv9), .ref hm]) := by
    intro cv9 hcv H locs ls hP hD hS hl
    have L123 : ∀ (fuel : Nat) (i : Int) (nn : Int), (0 ≤ i ∧ i ≤ np) → ((nn = 1 ∧ tdX TD net layer + 16 * plX (pre DD i) net layer = 0) ∨ (nn = 0 ∧ 0 < tdX TD net layer + 16 * plX (pre DD i) net layer)) → (np - i < (fuel : Int)) → ∀ (H : Heap) (locs : List Loc) (ls : Array Slot), va_P D jcl [(hm, .inr (5, [.int (jI cv9), .int (jI ly), .int (jI nt), .ref (md 3), .int (jI ns), .ref (md 5), .ref (md 6), .ref (md 7), .int (jI nd), .ref (md 9), .ref (md 10), .ref (md 11), .int (jI np), .ref (md 13), .ref (md 14), .ref (md 15), .ref (md 16), .ref (md 17), .ref (md 18), .ref (md 19), .ref (md 20), .int (jI nq), .ref (md 22), .ref (md 23), .ref (md 24), .ref (md 25), .ref (md 26), .int (jI tq), .ref (md 28), .ref (md 29), .ref (md 30)])), ((md 9), .inl (g.1, 100, .inl (aI tn))), ((md 10), .inl (g.1, 100, .inl (aI tl))), ((md 11), .inl (g.2.1, 100, .inr (.inl (aL ta)))), ((md 13), .inl (g.1, 60, .inl (aI qn))), ((md 14), .inl (g.1, 60, .inl (aI qs))), ((md 15), .inl (g.1, 60, .inl (aI qx))), ((md 16), .inl (g.1, 60, .inl (aI qy)))] H → va_D A [(hm, .inr (5, [.int (jI cv9), .int (jI ly), .int (jI nt), .ref (md 3), .int (jI ns), .ref (md 5), .ref (md 6), .ref (md 7), .int (jI nd), .ref (md 9), .ref (md 10), .ref (md 11), .int (jI np), .ref (md 13), .ref (md 14), .ref (md 15), .ref (md 16), .ref (md 17), .ref (md 18), .ref (md 19), .ref (md 20), .int (jI nq), .ref (md 22), .ref (md 23), .ref (md 24), .ref (md 25), .ref (md 26), .int (jI tq), .ref (md 28), .ref (md 29), .ref (md 30)])), ((md 9), .inl (g.1, 100, .inl (aI tn))), ((md 10), .inl (g.1, 100, .inl (aI tl))), ((md 11), .inl (g.2.1, 100, .inr (.inl (aL ta)))), ((md 13), .inl (g.1, 60, .inl (aI qn))), ((md 14), .inl (g.1, 60, .inl (aI qs))), ((md 15), .inl (g.1, 60, .inl (aI qx))), ((md 16), .inl (g.1, 60, .inl (aI qy)))] → va_S A s.heap H locs → lv_has ls 7 [(0, .ref hm), (1, .int (jI net)), (2, .int (jI layer)), (3, .long (jL v9)), (5, .int (jI nn)), (6, .int (jI i))] → W p l e (jR 2 80) s m args below meth c H locs 0 0 Q (F0 m 123 ls []) := by
      intro fuel
      induction fuel with
      | zero =>
        intro i nn hi hn9 hfu
        exfalso; omega
      | succ fuel ihL123 =>
        intro i nn hi hn9 hfu H locs ls hP hD hS hl
        have hnn : nn = 0 ∨ nn = 1 := by rcases hn9 with q9 | q9 <;> omega
        refine lv_iload hx hb dX5_diode_123 (lv_at hl 5 rfl) ?_
        refine lv_aload_n hx hb dX5_diode_125 rfl (lv_at hl 0 rfl) ?_
        refine va_get (D := D) (ci := 5) (v := .int (jI np)) (C := RX5) (T := TX5) (N := 31) hx hb hts inX5 hown hK hP 0 rfl rfl 12 (by decide) f139 (fun _ h9 => h9) rfl dX5_diode_126 ?_
        refine jv_icmp_ge (tgt := 172) hx hb ⟨by omega, by omega⟩ ⟨by omega, by omega⟩ dX5_diode_129 (by decide) (fun c129 => ?_) (fun c129 => ?_)
        · skip
          refine lv_aload_n hx hb dX5_diode_172 rfl (lv_at hl 0 rfl) ?_
          refine va_get (D := D) (ci := 5) (v := .ref (md 9)) (C := RX5) (T := TX5) (N := 31) hx hb hts inX5 hown hK hP 0 rfl rfl 9 (by decide) f23 (fun _ h9 => h9) rfl dX5_diode_173 ?_
          refine lv_aload_n hx hb dX5_diode_176 rfl (lv_at hl 0 rfl) ?_
          refine va_get (D := D) (ci := 5) (v := .int (jI nd)) (C := RX5) (T := TX5) (N := 31) hx hb hts inX5 hown hK hP 0 rfl rfl 8 (by decide) f136 (fun _ h9 => h9) rfl dX5_diode_177 ?_
          refine lv_iload_n hx hb dX5_diode_180 rfl (lv_at hl 1 rfl) ?_
          refine jv_iast hx hb hK hP hD hS 1 0 rfl rfl (i := nd) (x := net) ⟨by omega, by omega⟩ (Nat.le_of_ble_eq_true rfl) dX5_diode_181 (fun H locs hP hD hS => ?_)
          have hP : va_P D jcl [(hm, .inr (5, [.int (jI cv9), .int (jI ly), .int (jI nt), .ref (md 3), .int (jI ns), .ref (md 5), .ref (md 6), .ref (md 7), .int (jI nd), .ref (md 9), .ref (md 10), .ref (md 11), .int (jI np), .ref (md 13), .ref (md 14), .ref (md 15), .ref (md 16), .ref (md 17), .ref (md 18), .ref (md 19), .ref (md 20), .int (jI nq), .ref (md 22), .ref (md 23), .ref (md 24), .ref (md 25), .ref (md 26), .int (jI tq), .ref (md 28), .ref (md 29), .ref (md 30)])), ((md 9), .inl (g.1, 100, .inl (aI (upI tn nd net)))), ((md 10), .inl (g.1, 100, .inl (aI tl))), ((md 11), .inl (g.2.1, 100, .inr (.inl (aL ta)))), ((md 13), .inl (g.1, 60, .inl (aI qn))), ((md 14), .inl (g.1, 60, .inl (aI qs))), ((md 15), .inl (g.1, 60, .inl (aI qx))), ((md 16), .inl (g.1, 60, .inl (aI qy)))] H := hP
          have hD : va_D A [(hm, .inr (5, [.int (jI cv9), .int (jI ly), .int (jI nt), .ref (md 3), .int (jI ns), .ref (md 5), .ref (md 6), .ref (md 7), .int (jI nd), .ref (md 9), .ref (md 10), .ref (md 11), .int (jI np), .ref (md 13), .ref (md 14), .ref (md 15), .ref (md 16), .ref (md 17), .ref (md 18), .ref (md 19), .ref (md 20), .int (jI nq), .ref (md 22), .ref (md 23), .ref (md 24), .ref (md 25), .ref (md 26), .int (jI tq), .ref (md 28), .ref (md 29), .ref (md 30)])), ((md 9), .inl (g.1, 100, .inl (aI (upI tn nd net)))), ((md 10), .inl (g.1, 100, .inl (aI tl))), ((md 11), .inl (g.2.1, 100, .inr (.inl (aL ta)))), ((md 13), .inl (g.1, 60, .inl (aI qn))), ((md 14), .inl (g.1, 60, .inl (aI qs))), ((md 15), .inl (g.1, 60, .inl (aI qx))), ((md 16), .inl (g.1, 60, .inl (aI qy)))] := hD
          refine lv_aload_n hx hb dX5_diode_182 rfl (lv_at hl 0 rfl) ?_
          refine va_get (D := D) (ci := 5) (v := .ref (md 10)) (C := RX5) (T := TX5) (N := 31) hx hb hts inX5 hown hK hP 0 rfl rfl 10 (by decide) f26 (fun _ h9 => h9) rfl dX5_diode_183 ?_
          refine lv_aload_n hx hb dX5_diode_186 rfl (lv_at hl 0 rfl) ?_
          refine va_get (D := D) (ci := 5) (v := .int (jI nd)) (C := RX5) (T := TX5) (N := 31) hx hb hts inX5 hown hK hP 0 rfl rfl 8 (by decide) f136 (fun _ h9 => h9) rfl dX5_diode_187 ?_
          refine lv_iload_n hx hb dX5_diode_190 rfl (lv_at hl 2 rfl) ?_
          refine jv_iast hx hb hK hP hD hS 2 0 rfl rfl (i := nd) (x := layer) ⟨by omega, by omega⟩ (Nat.le_of_ble_eq_true rfl) dX5_diode_191 (fun H locs hP hD hS => ?_)
          have hP : va_P D jcl [(hm, .inr (5, [.int (jI cv9), .int (jI ly), .int (jI nt), .ref (md 3), .int (jI ns), .ref (md 5), .ref (md 6), .ref (md 7), .int (jI nd), .ref (md 9), .ref (md 10), .ref (md 11), .int (jI np), .ref (md 13), .ref (md 14), .ref (md 15), .ref (md 16), .ref (md 17), .ref (md 18), .ref (md 19), .ref (md 20), .int (jI nq), .ref (md 22), .ref (md 23), .ref (md 24), .ref (md 25), .ref (md 26), .int (jI tq), .ref (md 28), .ref (md 29), .ref (md 30)])), ((md 9), .inl (g.1, 100, .inl (aI (upI tn nd net)))), ((md 10), .inl (g.1, 100, .inl (aI (upI tl nd layer)))), ((md 11), .inl (g.2.1, 100, .inr (.inl (aL ta)))), ((md 13), .inl (g.1, 60, .inl (aI qn))), ((md 14), .inl (g.1, 60, .inl (aI qs))), ((md 15), .inl (g.1, 60, .inl (aI qx))), ((md 16), .inl (g.1, 60, .inl (aI qy)))] H := hP
          have hD : va_D A [(hm, .inr (5, [.int (jI cv9), .int (jI ly), .int (jI nt), .ref (md 3), .int (jI ns), .ref (md 5), .ref (md 6), .ref (md 7), .int (jI nd), .ref (md 9), .ref (md 10), .ref (md 11), .int (jI np), .ref (md 13), .ref (md 14), .ref (md 15), .ref (md 16), .ref (md 17), .ref (md 18), .ref (md 19), .ref (md 20), .int (jI nq), .ref (md 22), .ref (md 23), .ref (md 24), .ref (md 25), .ref (md 26), .int (jI tq), .ref (md 28), .ref (md 29), .ref (md 30)])), ((md 9), .inl (g.1, 100, .inl (aI (upI tn nd net)))), ((md 10), .inl (g.1, 100, .inl (aI (upI tl nd layer)))), ((md 11), .inl (g.2.1, 100, .inr (.inl (aL ta)))), ((md 13), .inl (g.1, 60, .inl (aI qn))), ((md 14), .inl (g.1, 60, .inl (aI qs))), ((md 15), .inl (g.1, 60, .inl (aI qx))), ((md 16), .inl (g.1, 60, .inl (aI qy)))] := hD
          refine lv_aload_n hx hb dX5_diode_192 rfl (lv_at hl 0 rfl) ?_
          refine va_get (D := D) (ci := 5) (v := .ref (md 11)) (C := RX5) (T := TX5) (N := 31) hx hb hts inX5 hown hK hP 0 rfl rfl 11 (by decide) f29 (fun _ h9 => h9) rfl dX5_diode_193 ?_
          refine lv_aload_n hx hb dX5_diode_196 rfl (lv_at hl 0 rfl) ?_
          refine va_get (D := D) (ci := 5) (v := .int (jI nd)) (C := RX5) (T := TX5) (N := 31) hx hb hts inX5 hown hK hP 0 rfl rfl 8 (by decide) f136 (fun _ h9 => h9) rfl dX5_diode_197 ?_
          refine lv_lload_n hx hb dX5_diode_200 rfl (lv_at hl 3 rfl) ?_
          refine jv_last hx hb hK hP hD hS 3 1 rfl rfl (i := nd) (x := v9) ⟨by omega, by omega⟩ (Nat.le_of_ble_eq_true rfl) dX5_diode_201 (fun H locs hP hD hS => ?_)
          have hP : va_P D jcl [(hm, .inr (5, [.int (jI cv9), .int (jI ly), .int (jI nt), .ref (md 3), .int (jI ns), .ref (md 5), .ref (md 6), .ref (md 7), .int (jI nd), .ref (md 9), .ref (md 10), .ref (md 11), .int (jI np), .ref (md 13), .ref (md 14), .ref (md 15), .ref (md 16), .ref (md 17), .ref (md 18), .ref (md 19), .ref (md 20), .int (jI nq), .ref (md 22), .ref (md 23), .ref (md 24), .ref (md 25), .ref (md 26), .int (jI tq), .ref (md 28), .ref (md 29), .ref (md 30)])), ((md 9), .inl (g.1, 100, .inl (aI (upI tn nd net)))), ((md 10), .inl (g.1, 100, .inl (aI (upI tl nd layer)))), ((md 11), .inl (g.2.1, 100, .inr (.inl (aL (upI ta nd v9))))), ((md 13), .inl (g.1, 60, .inl (aI qn))), ((md 14), .inl (g.1, 60, .inl (aI qs))), ((md 15), .inl (g.1, 60, .inl (aI qx))), ((md 16), .inl (g.1, 60, .inl (aI qy)))] H := hP
          have hD : va_D A [(hm, .inr (5, [.int (jI cv9), .int (jI ly), .int (jI nt), .ref (md 3), .int (jI ns), .ref (md 5), .ref (md 6), .ref (md 7), .int (jI nd), .ref (md 9), .ref (md 10), .ref (md 11), .int (jI np), .ref (md 13), .ref (md 14), .ref (md 15), .ref (md 16), .ref (md 17), .ref (md 18), .ref (md 19), .ref (md 20), .int (jI nq), .ref (md 22), .ref (md 23), .ref (md 24), .ref (md 25), .ref (md 26), .int (jI tq), .ref (md 28), .ref (md 29), .ref (md 30)])), ((md 9), .inl (g.1, 100, .inl (aI (upI tn nd net)))), ((md 10), .inl (g.1, 100, .inl (aI (upI tl nd layer)))), ((md 11), .inl (g.2.1, 100, .inr (.inl (aL (upI ta nd v9))))), ((md 13), .inl (g.1, 60, .inl (aI qn))), ((md 14), .inl (g.1, 60, .inl (aI qs))), ((md 15), .inl (g.1, 60, .inl (aI qx))), ((md 16), .inl (g.1, 60, .inl (aI qy)))] := hD
          refine lv_aload_n hx hb dX5_diode_202 rfl (lv_at hl 0 rfl) ?_
          refine lv_dup hx hb dX5_diode_203 rfl ?_
          refine va_get (D := D) (ci := 5) (v := .int (jI nd)) (C := RX5) (T := TX5) (N := 31) hx hb hts inX5 hown hK hP 0 rfl rfl 8 (by decide) f136 (fun _ h9 => h9) rfl dX5_diode_204 ?_
          refine jv_iconst hx hb dX5_diode_207 ?_
          refine jv_iadd hx hb dX5_diode_208 ?_
          refine va_put (D := D) (ci := 5) (v := .int (jI (nd + 1))) (ty := .int) (C := RX5) (T := TX5) (N := 31) hx hb hts inX5 tyX5 tyX5_ok nmX5 hown hK hP hD hS 0 rfl rfl 8 (by decide) f136 (fun _ h9 => h9) rfl (by decide +kernel) rfl rfl (Nat.le_of_ble_eq_true rfl) dX5_diode_209 (fun H locs hP hD hS => ?_)
          have hP : va_P D jcl [(hm, .inr (5, [.int (jI cv9), .int (jI ly), .int (jI nt), .ref (md 3), .int (jI ns), .ref (md 5), .ref (md 6), .ref (md 7), .int (jI (nd + 1)), .ref (md 9), .ref (md 10), .ref (md 11), .int (jI np), .ref (md 13), .ref (md 14), .ref (md 15), .ref (md 16), .ref (md 17), .ref (md 18), .ref (md 19), .ref (md 20), .int (jI nq), .ref (md 22), .ref (md 23), .ref (md 24), .ref (md 25), .ref (md 26), .int (jI tq), .ref (md 28), .ref (md 29), .ref (md 30)])), ((md 9), .inl (g.1, 100, .inl (aI (upI tn nd net)))), ((md 10), .inl (g.1, 100, .inl (aI (upI tl nd layer)))), ((md 11), .inl (g.2.1, 100, .inr (.inl (aL (upI ta nd v9))))), ((md 13), .inl (g.1, 60, .inl (aI qn))), ((md 14), .inl (g.1, 60, .inl (aI qs))), ((md 15), .inl (g.1, 60, .inl (aI qx))), ((md 16), .inl (g.1, 60, .inl (aI qy)))] H := hP
          have hD : va_D A [(hm, .inr (5, [.int (jI cv9), .int (jI ly), .int (jI nt), .ref (md 3), .int (jI ns), .ref (md 5), .ref (md 6), .ref (md 7), .int (jI (nd + 1)), .ref (md 9), .ref (md 10), .ref (md 11), .int (jI np), .ref (md 13), .ref (md 14), .ref (md 15), .ref (md 16), .ref (md 17), .ref (md 18), .ref (md 19), .ref (md 20), .int (jI nq), .ref (md 22), .ref (md 23), .ref (md 24), .ref (md 25), .ref (md 26), .int (jI tq), .ref (md 28), .ref (md 29), .ref (md 30)])), ((md 9), .inl (g.1, 100, .inl (aI (upI tn nd net)))), ((md 10), .inl (g.1, 100, .inl (aI (upI tl nd layer)))), ((md 11), .inl (g.2.1, 100, .inr (.inl (aL (upI ta nd v9))))), ((md 13), .inl (g.1, 60, .inl (aI qn))), ((md 14), .inl (g.1, 60, .inl (aI qs))), ((md 15), .inl (g.1, 60, .inl (aI qx))), ((md 16), .inl (g.1, 60, .inl (aI qy)))] := hD
          refine lv_iload hx hb dX5_diode_212 (lv_at hl 4 rfl) ?_
          exact hret nn (cv9, nd + 1, upI tn nd net, upI tl nd layer, upI ta nd v9) _ _ _ _ (by omega) (by
            rw [pre_all (L := DD) (i := i) (by omega)] at hn9
            exact Or.inr ⟨by show cv9 = 0; omega, by omega, by omega, by omega, rfl, mtI_s hmt (by omega) (by omega) (by omega), by show (nn = 1 ∧ tdX TD net layer + 16 * plX DD net layer = 0) ∨ (nn = 0 ∧ tdX TD net layer + 16 * plX DD net layer ≠ 0); omega⟩) (hP.sub [0, 1, 2, 3, 4, 5, 6, 7] rfl) (hD.sub [0, 1, 2, 3, 4, 5, 6, 7] (by decide) rfl) hS dX5_diode_214
        · skip
          obtain ⟨d, hq, e0, e1, e2, e3, e4, e5, e6, hok⟩ := md_at hmd (k := i) ⟨hi.1, by omega⟩
          unfold okQ at hok
          have hd9 := hd2 d (List.mem_of_getElem? hq)
          refine lv_iload hx hb dX5_diode_132 (lv_at hl 4 rfl) ?_
          refine jv_if_eq (tgt := 163) hx hb ⟨by omega, by omega⟩ dX5_diode_134 (by decide) (fun c134 => ?_) (fun c134 => ?_)
          · skip
            refine jv_iconst hx hb dX5_diode_163 ?_
            refine lv_istore (lv' := [(5, .int (jI 0)), (0, .ref hm), (1, .int (jI net)), (2, .int (jI layer)), (3, .long (jL v9)), (6, .int (jI i))]) hx hb dX5_diode_164 hl (by decide) rfl (fun ls hl => ?_)
            refine jv_iinc (lv2 := [(6, .int (jI (i + 1))), (5, .int (jI 0)), (0, .ref hm), (1, .int (jI net)), (2, .int (jI layer)), (3, .long (jL v9))]) hx hb dX5_diode_166 hl (k := 5) rfl (by decide) rfl (fun ls hl => ?_)
            refine lv_goto (tgt := 123) hx hb dX5_diode_169 (by decide) ?_
            exact ihL123 (i + 1) 0 (by omega) (by
              have e9 := lsum_pre (fun d : jD => if d.1.1 = net ∧ d.2 = layer then 1 else 0) hi.1 hq
              have e8 : plX (pre DD (i + 1)) net layer = plX (pre DD i) net layer + (if d.1.1 = net ∧ d.2 = layer then 1 else 0) := e9
              rw [e8]
              have hpz : 0 ≤ tdX TD net layer + 16 * plX (pre DD i) net layer := by rcases hn9 with q9 | q9 <;> omega
              first
              | (rw [if_neg (fun r => by omega)]; omega)
              | (rw [if_pos ⟨by omega, by omega⟩]; omega)
              | (split <;> omega)) (by omega) _ _ _ (hP.sub [0, 1, 2, 3, 4, 5, 6, 7] rfl) (hD.sub [0, 1, 2, 3, 4, 5, 6, 7] (by decide) rfl) hS (lv_sub hl [2, 3, 4, 5, 1, 0] rfl)
          · skip
            refine lv_aload_n hx hb dX5_diode_137 rfl (lv_at hl 0 rfl) ?_
            refine va_get (D := D) (ci := 5) (v := .ref (md 13)) (C := RX5) (T := TX5) (N := 31) hx hb hts inX5 hown hK hP 0 rfl rfl 13 (by decide) f32 (fun _ h9 => h9) rfl dX5_diode_138 ?_
            refine lv_iload hx hb dX5_diode_141 (lv_at hl 5 rfl) ?_
            refine jv_iald hx hb hK hP 4 0 rfl rfl (i := i) ⟨by omega, by omega⟩ (Nat.le_of_ble_eq_true rfl) dX5_diode_143 ?_
            refine lv_iload_n hx hb dX5_diode_144 rfl (lv_at hl 1 rfl) ?_
            refine jv_icmp_ne (tgt := 159) hx hb ⟨by omega, by omega⟩ ⟨by omega, by omega⟩ dX5_diode_145 (by decide) (fun c145 => ?_) (fun c145 => ?_)
            · skip
              refine jv_iconst hx hb dX5_diode_159 ?_
              refine lv_goto (tgt := 164) hx hb dX5_diode_160 (by decide) ?_
              refine lv_istore (lv' := [(5, .int (jI 1)), (0, .ref hm), (1, .int (jI net)), (2, .int (jI layer)), (3, .long (jL v9)), (6, .int (jI i))]) hx hb dX5_diode_164 hl (by decide) rfl (fun ls hl => ?_)
              refine jv_iinc (lv2 := [(6, .int (jI (i + 1))), (5, .int (jI 1)), (0, .ref hm), (1, .int (jI net)), (2, .int (jI layer)), (3, .long (jL v9))]) hx hb dX5_diode_166 hl (k := 5) rfl (by decide) rfl (fun ls hl => ?_)
              refine lv_goto (tgt := 123) hx hb dX5_diode_169 (by decide) ?_
              exact ihL123 (i + 1) 1 (by omega) (by
                have e9 := lsum_pre (fun d : jD => if d.1.1 = net ∧ d.2 = layer then 1 else 0) hi.1 hq
                have e8 : plX (pre DD (i + 1)) net layer = plX (pre DD i) net layer + (if d.1.1 = net ∧ d.2 = layer then 1 else 0) := e9
                rw [e8]
                have hpz : 0 ≤ tdX TD net layer + 16 * plX (pre DD i) net layer := by rcases hn9 with q9 | q9 <;> omega
                first
                | (rw [if_neg (fun r => by omega)]; omega)
                | (rw [if_pos ⟨by omega, by omega⟩]; omega)
                | (split <;> omega)) (by omega) _ _ _ (hP.sub [0, 1, 2, 3, 4, 5, 6, 7] rfl) (hD.sub [0, 1, 2, 3, 4, 5, 6, 7] (by decide) rfl) hS (lv_sub hl [2, 3, 4, 5, 1, 0] rfl)
            · skip
              refine lv_aload_n hx hb dX5_diode_148 rfl (lv_at hl 0 rfl) ?_
              refine va_get (D := D) (ci := 5) (v := .ref (md 14)) (C := RX5) (T := TX5) (N := 31) hx hb hts inX5 hown hK hP 0 rfl rfl 14 (by decide) f35 (fun _ h9 => h9) rfl dX5_diode_149 ?_
              refine lv_iload hx hb dX5_diode_152 (lv_at hl 5 rfl) ?_
              refine jv_iald hx hb hK hP 5 0 rfl rfl (i := i) ⟨by omega, by omega⟩ (Nat.le_of_ble_eq_true rfl) dX5_diode_154 ?_
              refine lv_iload_n hx hb dX5_diode_155 rfl (lv_at hl 2 rfl) ?_
              refine jv_icmp_eq (tgt := 163) hx hb ⟨by omega, by omega⟩ ⟨by omega, by omega⟩ dX5_diode_156 (by decide) (fun c156 => ?_) (fun c156 => ?_)
              · skip
                refine jv_iconst hx hb dX5_diode_163 ?_
                refine lv_istore (lv' := [(5, .int (jI 0)), (0, .ref hm), (1, .int (jI net)), (2, .int (jI layer)), (3, .long (jL v9)), (6, .int (jI i))]) hx hb dX5_diode_164 hl (by decide) rfl (fun ls hl => ?_)
                refine jv_iinc (lv2 := [(6, .int (jI (i + 1))), (5, .int (jI 0)), (0, .ref hm), (1, .int (jI net)), (2, .int (jI layer)), (3, .long (jL v9))]) hx hb dX5_diode_166 hl (k := 5) rfl (by decide) rfl (fun ls hl => ?_)
                refine lv_goto (tgt := 123) hx hb dX5_diode_169 (by decide) ?_
                exact ihL123 (i + 1) 0 (by omega) (by
                  have e9 := lsum_pre (fun d : jD => if d.1.1 = net ∧ d.2 = layer then 1 else 0) hi.1 hq
                  have e8 : plX (pre DD (i + 1)) net layer = plX (pre DD i) net layer + (if d.1.1 = net ∧ d.2 = layer then 1 else 0) := e9
                  rw [e8]
                  have hpz : 0 ≤ tdX TD net layer + 16 * plX (pre DD i) net layer := by rcases hn9 with q9 | q9 <;> omega
                  first
                  | (rw [if_neg (fun r => by omega)]; omega)
                  | (rw [if_pos ⟨by omega, by omega⟩]; omega)
                  | (split <;> omega)) (by omega) _ _ _ (hP.sub [0, 1, 2, 3, 4, 5, 6, 7] rfl) (hD.sub [0, 1, 2, 3, 4, 5, 6, 7] (by decide) rfl) hS (lv_sub hl [2, 3, 4, 5, 1, 0] rfl)
              · skip
                refine jv_iconst hx hb dX5_diode_159 ?_
                refine lv_goto (tgt := 164) hx hb dX5_diode_160 (by decide) ?_
                refine lv_istore (lv' := [(5, .int (jI 1)), (0, .ref hm), (1, .int (jI net)), (2, .int (jI layer)), (3, .long (jL v9)), (6, .int (jI i))]) hx hb dX5_diode_164 hl (by decide) rfl (fun ls hl => ?_)
                refine jv_iinc (lv2 := [(6, .int (jI (i + 1))), (5, .int (jI 1)), (0, .ref hm), (1, .int (jI net)), (2, .int (jI layer)), (3, .long (jL v9))]) hx hb dX5_diode_166 hl (k := 5) rfl (by decide) rfl (fun ls hl => ?_)
                refine lv_goto (tgt := 123) hx hb dX5_diode_169 (by decide) ?_
                exact ihL123 (i + 1) 1 (by omega) (by
                  have e9 := lsum_pre (fun d : jD => if d.1.1 = net ∧ d.2 = layer then 1 else 0) hi.1 hq
                  have e8 : plX (pre DD (i + 1)) net layer = plX (pre DD i) net layer + (if d.1.1 = net ∧ d.2 = layer then 1 else 0) := e9
                  rw [e8]
                  have hpz : 0 ≤ tdX TD net layer + 16 * plX (pre DD i) net layer := by rcases hn9 with q9 | q9 <;> omega
                  first
                  | (rw [if_neg (fun r => by omega)]; omega)
                  | (rw [if_pos ⟨by omega, by omega⟩]; omega)
                  | (split <;> omega)) (by omega) _ _ _ (hP.sub [0, 1, 2, 3, 4, 5, 6, 7] rfl) (hD.sub [0, 1, 2, 3, 4, 5, 6, 7] (by decide) rfl) hS (lv_sub hl [2, 3, 4, 5, 1, 0] rfl)
    have L71 : ∀ (fuel : Nat) (i : Int) (nn : Int), (0 ≤ i ∧ i ≤ nd) → ((nn = 1 ∧ tdX (pre TD i) net layer = 0) ∨ (nn = 0 ∧ 0 < tdX (pre TD i) net layer)) → (nd - i < (fuel : Int)) → ∀ (H : Heap) (locs : List Loc) (ls : Array Slot), va_P D jcl [(hm, .inr (5, [.int (jI cv9), .int (jI ly), .int (jI nt), .ref (md 3), .int (jI ns), .ref (md 5), .ref (md 6), .ref (md 7), .int (jI nd), .ref (md 9), .ref (md 10), .ref (md 11), .int (jI np), .ref (md 13), .ref (md 14), .ref (md 15), .ref (md 16), .ref (md 17), .ref (md 18), .ref (md 19), .ref (md 20), .int (jI nq), .ref (md 22), .ref (md 23), .ref (md 24), .ref (md 25), .ref (md 26), .int (jI tq), .ref (md 28), .ref (md 29), .ref (md 30)])), ((md 9), .inl (g.1, 100, .inl (aI tn))), ((md 10), .inl (g.1, 100, .inl (aI tl))), ((md 11), .inl (g.2.1, 100, .inr (.inl (aL ta)))), ((md 13), .inl (g.1, 60, .inl (aI qn))), ((md 14), .inl (g.1, 60, .inl (aI qs))), ((md 15), .inl (g.1, 60, .inl (aI qx))), ((md 16), .inl (g.1, 60, .inl (aI qy)))] H → va_D A [(hm, .inr (5, [.int (jI cv9), .int (jI ly), .int (jI nt), .ref (md 3), .int (jI ns), .ref (md 5), .ref (md 6), .ref (md 7), .int (jI nd), .ref (md 9), .ref (md 10), .ref (md 11), .int (jI np), .ref (md 13), .ref (md 14), .ref (md 15), .ref (md 16), .ref (md 17), .ref (md 18), .ref (md 19), .ref (md 20), .int (jI nq), .ref (md 22), .ref (md 23), .ref (md 24), .ref (md 25), .ref (md 26), .int (jI tq), .ref (md 28), .ref (md 29), .ref (md 30)])), ((md 9), .inl (g.1, 100, .inl (aI tn))), ((md 10), .inl (g.1, 100, .inl (aI tl))), ((md 11), .inl (g.2.1, 100, .inr (.inl (aL ta)))), ((md 13), .inl (g.1, 60, .inl (aI qn))), ((md 14), .inl (g.1, 60, .inl (aI qs))), ((md 15), .inl (g.1, 60, .inl (aI qx))), ((md 16), .inl (g.1, 60, .inl (aI qy)))] → va_S A s.heap H locs → lv_has ls 7 [(0, .ref hm), (1, .int (jI net)), (2, .int (jI layer)), (3, .long (jL v9)), (5, .int (jI nn)), (6, .int (jI i))] → W p l e (jR 2 80) s m args below meth c H locs 0 0 Q (F0 m 71 ls []) := by
      intro fuel
      induction fuel with
      | zero =>
        intro i nn hi hn9 hfu
        exfalso; omega
      | succ fuel ihL71 =>
        intro i nn hi hn9 hfu H locs ls hP hD hS hl
        have hnn : nn = 0 ∨ nn = 1 := by rcases hn9 with q9 | q9 <;> omega
        refine lv_iload hx hb dX5_diode_71 (lv_at hl 5 rfl) ?_
        refine lv_aload_n hx hb dX5_diode_73 rfl (lv_at hl 0 rfl) ?_
        refine va_get (D := D) (ci := 5) (v := .int (jI nd)) (C := RX5) (T := TX5) (N := 31) hx hb hts inX5 hown hK hP 0 rfl rfl 8 (by decide) f136 (fun _ h9 => h9) rfl dX5_diode_74 ?_
        refine jv_icmp_ge (tgt := 120) hx hb ⟨by omega, by omega⟩ ⟨by omega, by omega⟩ dX5_diode_77 (by decide) (fun c77 => ?_) (fun c77 => ?_)
        · skip
          refine jv_iconst hx hb dX5_diode_120 ?_
          refine lv_istore (lv' := [(6, .int (jI 0)), (0, .ref hm), (1, .int (jI net)), (2, .int (jI layer)), (3, .long (jL v9)), (5, .int (jI nn))]) hx hb dX5_diode_121 hl (by decide) rfl (fun ls hl => ?_)
          exact L123 ((np - 0).toNat + 1) 0 nn (by omega) (by
            rw [pre_all (L := TD) (i := i) (by omega)] at hn9
            rw [pre_0]
            show (_ ∧ tdX TD net layer + 16 * 0 = 0) ∨ (_ ∧ 0 < tdX TD net layer + 16 * 0)
            omega) (by omega) _ _ _ (hP.sub [0, 1, 2, 3, 4, 5, 6, 7] rfl) (hD.sub [0, 1, 2, 3, 4, 5, 6, 7] (by decide) rfl) hS (lv_sub hl [1, 2, 3, 4, 5, 0] rfl)
        · skip
          obtain ⟨d, hq, e0, e1, e2, e3, e4, e5, e6, e7, e8⟩ := mt_at hmt (k := i) ⟨hi.1, by omega⟩
          refine lv_iload hx hb dX5_diode_80 (lv_at hl 4 rfl) ?_
          refine jv_if_eq (tgt := 111) hx hb ⟨by omega, by omega⟩ dX5_diode_82 (by decide) (fun c82 => ?_) (fun c82 => ?_)
          · skip
            refine jv_iconst hx hb dX5_diode_111 ?_
            refine lv_istore (lv' := [(5, .int (jI 0)), (0, .ref hm), (1, .int (jI net)), (2, .int (jI layer)), (3, .long (jL v9)), (6, .int (jI i))]) hx hb dX5_diode_112 hl (by decide) rfl (fun ls hl => ?_)
            refine jv_iinc (lv2 := [(6, .int (jI (i + 1))), (5, .int (jI 0)), (0, .ref hm), (1, .int (jI net)), (2, .int (jI layer)), (3, .long (jL v9))]) hx hb dX5_diode_114 hl (k := 5) rfl (by decide) rfl (fun ls hl => ?_)
            refine lv_goto (tgt := 71) hx hb dX5_diode_117 (by decide) ?_
            exact ihL71 (i + 1) 0 (by omega) (by
              have e9 := lsum_pre (fun d : Int × Int × Int => if d.1 = net ∧ d.2.1 = layer then d.2.2 else 0) hi.1 hq
              have e8 : tdX (pre TD (i + 1)) net layer = tdX (pre TD i) net layer + (if d.1 = net ∧ d.2.1 = layer then d.2.2 else 0) := e9
              rw [e8]
              have hpz : 0 ≤ tdX (pre TD i) net layer := by rcases hn9 with q9 | q9 <;> omega
              first
              | (rw [if_neg (fun r => by omega)]; omega)
              | (rw [if_pos ⟨by omega, by omega⟩]; omega)
              | (split <;> omega)) (by omega) _ _ _ (hP.sub [0, 1, 2, 3, 4, 5, 6, 7] rfl) (hD.sub [0, 1, 2, 3, 4, 5, 6, 7] (by decide) rfl) hS (lv_sub hl [2, 3, 4, 5, 1, 0] rfl)
          · skip
            refine lv_aload_n hx hb dX5_diode_85 rfl (lv_at hl 0 rfl) ?_
            refine va_get (D := D) (ci := 5) (v := .ref (md 9)) (C := RX5) (T := TX5) (N := 31) hx hb hts inX5 hown hK hP 0 rfl rfl 9 (by decide) f23 (fun _ h9 => h9) rfl dX5_diode_86 ?_
            refine lv_iload hx hb dX5_diode_89 (lv_at hl 5 rfl) ?_
            refine jv_iald hx hb hK hP 1 0 rfl rfl (i := i) ⟨by omega, by omega⟩ (Nat.le_of_ble_eq_true rfl) dX5_diode_91 ?_
            refine lv_iload_n hx hb dX5_diode_92 rfl (lv_at hl 1 rfl) ?_
            refine jv_icmp_ne (tgt := 107) hx hb ⟨by omega, by omega⟩ ⟨by omega, by omega⟩ dX5_diode_93 (by decide) (fun c93 => ?_) (fun c93 => ?_)
            · skip
              refine jv_iconst hx hb dX5_diode_107 ?_
              refine lv_goto (tgt := 112) hx hb dX5_diode_108 (by decide) ?_
              refine lv_istore (lv' := [(5, .int (jI 1)), (0, .ref hm), (1, .int (jI net)), (2, .int (jI layer)), (3, .long (jL v9)), (6, .int (jI i))]) hx hb dX5_diode_112 hl (by decide) rfl (fun ls hl => ?_)
              refine jv_iinc (lv2 := [(6, .int (jI (i + 1))), (5, .int (jI 1)), (0, .ref hm), (1, .int (jI net)), (2, .int (jI layer)), (3, .long (jL v9))]) hx hb dX5_diode_114 hl (k := 5) rfl (by decide) rfl (fun ls hl => ?_)
              refine lv_goto (tgt := 71) hx hb dX5_diode_117 (by decide) ?_
              exact ihL71 (i + 1) 1 (by omega) (by
                have e9 := lsum_pre (fun d : Int × Int × Int => if d.1 = net ∧ d.2.1 = layer then d.2.2 else 0) hi.1 hq
                have e8 : tdX (pre TD (i + 1)) net layer = tdX (pre TD i) net layer + (if d.1 = net ∧ d.2.1 = layer then d.2.2 else 0) := e9
                rw [e8]
                have hpz : 0 ≤ tdX (pre TD i) net layer := by rcases hn9 with q9 | q9 <;> omega
                first
                | (rw [if_neg (fun r => by omega)]; omega)
                | (rw [if_pos ⟨by omega, by omega⟩]; omega)
                | (split <;> omega)) (by omega) _ _ _ (hP.sub [0, 1, 2, 3, 4, 5, 6, 7] rfl) (hD.sub [0, 1, 2, 3, 4, 5, 6, 7] (by decide) rfl) hS (lv_sub hl [2, 3, 4, 5, 1, 0] rfl)
            · skip
              refine lv_aload_n hx hb dX5_diode_96 rfl (lv_at hl 0 rfl) ?_
              refine va_get (D := D) (ci := 5) (v := .ref (md 10)) (C := RX5) (T := TX5) (N := 31) hx hb hts inX5 hown hK hP 0 rfl rfl 10 (by decide) f26 (fun _ h9 => h9) rfl dX5_diode_97 ?_
              refine lv_iload hx hb dX5_diode_100 (lv_at hl 5 rfl) ?_
              refine jv_iald hx hb hK hP 2 0 rfl rfl (i := i) ⟨by omega, by omega⟩ (Nat.le_of_ble_eq_true rfl) dX5_diode_102 ?_
              refine lv_iload_n hx hb dX5_diode_103 rfl (lv_at hl 2 rfl) ?_
              refine jv_icmp_eq (tgt := 111) hx hb ⟨by omega, by omega⟩ ⟨by omega, by omega⟩ dX5_diode_104 (by decide) (fun c104 => ?_) (fun c104 => ?_)
              · skip
                refine jv_iconst hx hb dX5_diode_111 ?_
                refine lv_istore (lv' := [(5, .int (jI 0)), (0, .ref hm), (1, .int (jI net)), (2, .int (jI layer)), (3, .long (jL v9)), (6, .int (jI i))]) hx hb dX5_diode_112 hl (by decide) rfl (fun ls hl => ?_)
                refine jv_iinc (lv2 := [(6, .int (jI (i + 1))), (5, .int (jI 0)), (0, .ref hm), (1, .int (jI net)), (2, .int (jI layer)), (3, .long (jL v9))]) hx hb dX5_diode_114 hl (k := 5) rfl (by decide) rfl (fun ls hl => ?_)
                refine lv_goto (tgt := 71) hx hb dX5_diode_117 (by decide) ?_
                exact ihL71 (i + 1) 0 (by omega) (by
                  have e9 := lsum_pre (fun d : Int × Int × Int => if d.1 = net ∧ d.2.1 = layer then d.2.2 else 0) hi.1 hq
                  have e8 : tdX (pre TD (i + 1)) net layer = tdX (pre TD i) net layer + (if d.1 = net ∧ d.2.1 = layer then d.2.2 else 0) := e9
                  rw [e8]
                  have hpz : 0 ≤ tdX (pre TD i) net layer := by rcases hn9 with q9 | q9 <;> omega
                  first
                  | (rw [if_neg (fun r => by omega)]; omega)
                  | (rw [if_pos ⟨by omega, by omega⟩]; omega)
                  | (split <;> omega)) (by omega) _ _ _ (hP.sub [0, 1, 2, 3, 4, 5, 6, 7] rfl) (hD.sub [0, 1, 2, 3, 4, 5, 6, 7] (by decide) rfl) hS (lv_sub hl [2, 3, 4, 5, 1, 0] rfl)
              · skip
                refine jv_iconst hx hb dX5_diode_107 ?_
                refine lv_goto (tgt := 112) hx hb dX5_diode_108 (by decide) ?_
                refine lv_istore (lv' := [(5, .int (jI 1)), (0, .ref hm), (1, .int (jI net)), (2, .int (jI layer)), (3, .long (jL v9)), (6, .int (jI i))]) hx hb dX5_diode_112 hl (by decide) rfl (fun ls hl => ?_)
                refine jv_iinc (lv2 := [(6, .int (jI (i + 1))), (5, .int (jI 1)), (0, .ref hm), (1, .int (jI net)), (2, .int (jI layer)), (3, .long (jL v9))]) hx hb dX5_diode_114 hl (k := 5) rfl (by decide) rfl (fun ls hl => ?_)
                refine lv_goto (tgt := 71) hx hb dX5_diode_117 (by decide) ?_
                exact ihL71 (i + 1) 1 (by omega) (by
                  have e9 := lsum_pre (fun d : Int × Int × Int => if d.1 = net ∧ d.2.1 = layer then d.2.2 else 0) hi.1 hq
                  have e8 : tdX (pre TD (i + 1)) net layer = tdX (pre TD i) net layer + (if d.1 = net ∧ d.2.1 = layer then d.2.2 else 0) := e9
                  rw [e8]
                  have hpz : 0 ≤ tdX (pre TD i) net layer := by rcases hn9 with q9 | q9 <;> omega
                  first
                  | (rw [if_neg (fun r => by omega)]; omega)
                  | (rw [if_pos ⟨by omega, by omega⟩]; omega)
                  | (split <;> omega)) (by omega) _ _ _ (hP.sub [0, 1, 2, 3, 4, 5, 6, 7] rfl) (hD.sub [0, 1, 2, 3, 4, 5, 6, 7] (by decide) rfl) hS (lv_sub hl [2, 3, 4, 5, 1, 0] rfl)
    refine va_put (D := D) (ci := 5) (v := .int (jI cv9)) (ty := .int) (C := RX5) (T := TX5) (N := 31) hx hb hts inX5 tyX5 tyX5_ok nmX5 hown hK hP hD hS 0 rfl rfl 0 (by decide) f84 (fun _ h9 => h9) rfl (by decide +kernel) rfl rfl (Nat.le_of_ble_eq_true rfl) dX5_diode_53 (fun H locs hP hD hS => ?_)
    have hP : va_P D jcl [(hm, .inr (5, [.int (jI cv9), .int (jI ly), .int (jI nt), .ref (md 3), .int (jI ns), .ref (md 5), .ref (md 6), .ref (md 7), .int (jI nd), .ref (md 9), .ref (md 10), .ref (md 11), .int (jI np), .ref (md 13), .ref (md 14), .ref (md 15), .ref (md 16), .ref (md 17), .ref (md 18), .ref (md 19), .ref (md 20), .int (jI nq), .ref (md 22), .ref (md 23), .ref (md 24), .ref (md 25), .ref (md 26), .int (jI tq), .ref (md 28), .ref (md 29), .ref (md 30)])), ((md 9), .inl (g.1, 100, .inl (aI tn))), ((md 10), .inl (g.1, 100, .inl (aI tl))), ((md 11), .inl (g.2.1, 100, .inr (.inl (aL ta)))), ((md 13), .inl (g.1, 60, .inl (aI qn))), ((md 14), .inl (g.1, 60, .inl (aI qs))), ((md 15), .inl (g.1, 60, .inl (aI qx))), ((md 16), .inl (g.1, 60, .inl (aI qy)))] H := hP
    have hD : va_D A [(hm, .inr (5, [.int (jI cv9), .int (jI ly), .int (jI nt), .ref (md 3), .int (jI ns), .ref (md 5), .ref (md 6), .ref (md 7), .int (jI nd), .ref (md 9), .ref (md 10), .ref (md 11), .int (jI np), .ref (md 13), .ref (md 14), .ref (md 15), .ref (md 16), .ref (md 17), .ref (md 18), .ref (md 19), .ref (md 20), .int (jI nq), .ref (md 22), .ref (md 23), .ref (md 24), .ref (md 25), .ref (md 26), .int (jI tq), .ref (md 28), .ref (md 29), .ref (md 30)])), ((md 9), .inl (g.1, 100, .inl (aI tn))), ((md 10), .inl (g.1, 100, .inl (aI tl))), ((md 11), .inl (g.2.1, 100, .inr (.inl (aL ta)))), ((md 13), .inl (g.1, 60, .inl (aI qn))), ((md 14), .inl (g.1, 60, .inl (aI qs))), ((md 15), .inl (g.1, 60, .inl (aI qx))), ((md 16), .inl (g.1, 60, .inl (aI qy)))] := hD
    refine lv_aload_n hx hb dX5_diode_56 rfl (lv_at hl 0 rfl) ?_
    refine va_get (D := D) (ci := 5) (v := .int (jI cv9)) (C := RX5) (T := TX5) (N := 31) hx hb hts inX5 hown hK hP 0 rfl rfl 0 (by decide) f84 (fun _ h9 => h9) rfl dX5_diode_57 ?_
    refine jv_if_le (tgt := 65) hx hb ⟨by omega, by omega⟩ dX5_diode_60 (by decide) (fun c60 => ?_) (fun c60 => ?_)
    · skip
      refine jv_iconst hx hb dX5_diode_65 ?_
      refine lv_istore (lv' := [(5, .int (jI 1)), (0, .ref hm), (1, .int (jI net)), (2, .int (jI layer)), (3, .long (jL v9))]) hx hb dX5_diode_66 hl (by decide) rfl (fun ls hl => ?_)
      refine jv_iconst hx hb dX5_diode_68 ?_
      refine lv_istore (lv' := [(6, .int (jI 0)), (5, .int (jI 1)), (0, .ref hm), (1, .int (jI net)), (2, .int (jI layer)), (3, .long (jL v9))]) hx hb dX5_diode_69 hl (by decide) rfl (fun ls hl => ?_)
      exact L71 ((nd - 0).toNat + 1) 0 1 (by omega) (Or.inl ⟨rfl, by rw [pre_0]; rfl⟩) (by omega) _ _ _ (hP.sub [0, 1, 2, 3, 4, 5, 6, 7] rfl) (hD.sub [0, 1, 2, 3, 4, 5, 6, 7] (by decide) rfl) hS (lv_sub hl [2, 3, 4, 5, 1, 0] rfl)
    · skip
      refine jv_iconst hx hb dX5_diode_63 ?_
      exact hret 0 (cv9, nd, tn, tl, ta) _ _ _ _ (by omega) (Or.inl ⟨by show (cv9 = 1 ∧ ¬ ((0 ≤ net ∧ net < nt) ∧ (0 ≤ layer ∧ layer < ly))) ∨ (cv9 = 2 ∧ ((0 ≤ net ∧ net < nt) ∧ (0 ≤ layer ∧ layer < ly)) ∧ nd = 100) ∨ (cv9 = 3 ∧ ((0 ≤ net ∧ net < nt) ∧ (0 ≤ layer ∧ layer < ly)) ∧ nd < 100 ∧ ¬ (1 ≤ v9 ∧ v9 ≤ 1000000)); omega, rfl, rfl, rfl, rfl⟩) (hP.sub [0, 1, 2, 3, 4, 5, 6, 7] rfl) (hD.sub [0, 1, 2, 3, 4, 5, 6, 7] (by decide) rfl) hS dX5_diode_64
  refine lv_aload_n hx hb dX5_diode_0 rfl (lv_at hl 0 rfl) ?_
  refine lv_aload_n hx hb dX5_diode_1 rfl (lv_at hl 0 rfl) ?_
  refine lv_iload_n hx hb dX5_diode_2 rfl (lv_at hl 1 rfl) ?_
  refine jc_Vi (As := [.int (jI net)]) (rest := [.ref hm]) (wq := [((md 9), .inl (g.1, 100, .inl (aI tn))), ((md 10), .inl (g.1, 100, .inl (aI tl))), ((md 11), .inl (g.2.1, 100, .inr (.inl (aL ta)))), ((md 13), .inl (g.1, 60, .inl (aI qn))), ((md 14), .inl (g.1, 60, .inl (aI qs))), ((md 15), .inl (g.1, 60, .inl (aI qx))), ((md 16), .inl (g.1, 60, .inl (aI qy)))]) ⟨hx, hb, hml, hown, hts⟩ (tX5_isNet l D g hm md co ly nt ns nd np nq tq net (⟨hri.1, by omega, by omega⟩)) (cwV 1 hts gX5_diode_X5_isNet rfl rfl rfl (by decide +kernel) ⟨Nat.le_of_ble_eq_true rfl, Nat.le_of_ble_eq_true rfl⟩) hK hP hD hS hA [0] [1, 2, 3, 4, 5, 6, 7] rfl rfl (by decide) (by decide) (by decide) (va_recv hK hP (ci := 5) (q0 := 0) rfl rfl) rfl rfl hl.1 (Nat.le_of_ble_eq_true rfl) dX5_diode_3 ⟨Nat.le_of_ble_eq_true rfl, Nat.le_of_ble_eq_true rfl⟩ (fun zn9 u H locs hu hP hD hS => ?_)
  have hu : (zn9 = 1 ∧ (0 ≤ net ∧ net < nt)) ∨ (zn9 = 0 ∧ ¬ (0 ≤ net ∧ net < nt)) := hu
  have hzn := hu
  have hP : va_P D jcl [((md 9), .inl (g.1, 100, .inl (aI tn))), ((md 10), .inl (g.1, 100, .inl (aI tl))), ((md 11), .inl (g.2.1, 100, .inr (.inl (aL ta)))), ((md 13), .inl (g.1, 60, .inl (aI qn))), ((md 14), .inl (g.1, 60, .inl (aI qs))), ((md 15), .inl (g.1, 60, .inl (aI qx))), ((md 16), .inl (g.1, 60, .inl (aI qy))), (hm, .inr (5, [.int (jI co), .int (jI ly), .int (jI nt), .ref (md 3), .int (jI ns), .ref (md 5), .ref (md 6), .ref (md 7), .int (jI nd), .ref (md 9), .ref (md 10), .ref (md 11), .int (jI np), .ref (md 13), .ref (md 14), .ref (md 15), .ref (md 16), .ref (md 17), .ref (md 18), .ref (md 19), .ref (md 20), .int (jI nq), .ref (md 22), .ref (md 23), .ref (md 24), .ref (md 25), .ref (md 26), .int (jI tq), .ref (md 28), .ref (md 29), .ref (md 30)]))] H := hP
  have hD : va_D A [((md 9), .inl (g.1, 100, .inl (aI tn))), ((md 10), .inl (g.1, 100, .inl (aI tl))), ((md 11), .inl (g.2.1, 100, .inr (.inl (aL ta)))), ((md 13), .inl (g.1, 60, .inl (aI qn))), ((md 14), .inl (g.1, 60, .inl (aI qs))), ((md 15), .inl (g.1, 60, .inl (aI qx))), ((md 16), .inl (g.1, 60, .inl (aI qy))), (hm, .inr (5, [.int (jI co), .int (jI ly), .int (jI nt), .ref (md 3), .int (jI ns), .ref (md 5), .ref (md 6), .ref (md 7), .int (jI nd), .ref (md 9), .ref (md 10), .ref (md 11), .int (jI np), .ref (md 13), .ref (md 14), .ref (md 15), .ref (md 16), .ref (md 17), .ref (md 18), .ref (md 19), .ref (md 20), .int (jI nq), .ref (md 22), .ref (md 23), .ref (md 24), .ref (md 25), .ref (md 26), .int (jI tq), .ref (md 28), .ref (md 29), .ref (md 30)]))] := hD
  refine jv_if_eq (tgt := 17) hx hb ⟨by omega, by omega⟩ dX5_diode_6 (by decide) (fun c6 => ?_) (fun c6 => ?_)
  · skip
    refine jv_iconst hx hb dX5_diode_17 ?_
    refine lv_goto (tgt := 53) hx hb dX5_diode_18 (by decide) ?_
    exact JC 1 (by omega) _ _ _ (hP.sub [7, 0, 1, 2, 3, 4, 5, 6] rfl) (hD.sub [7, 0, 1, 2, 3, 4, 5, 6] (by decide) rfl) hS (lv_sub hl [0, 1, 2, 3] rfl)
  · skip
    refine lv_aload_n hx hb dX5_diode_9 rfl (lv_at hl 0 rfl) ?_
    refine lv_iload_n hx hb dX5_diode_10 rfl (lv_at hl 2 rfl) ?_
    refine jc_Vi (As := [.int (jI layer)]) (rest := [.ref hm]) (wq := [((md 9), .inl (g.1, 100, .inl (aI tn))), ((md 10), .inl (g.1, 100, .inl (aI tl))), ((md 11), .inl (g.2.1, 100, .inr (.inl (aL ta)))), ((md 13), .inl (g.1, 60, .inl (aI qn))), ((md 14), .inl (g.1, 60, .inl (aI qs))), ((md 15), .inl (g.1, 60, .inl (aI qx))), ((md 16), .inl (g.1, 60, .inl (aI qy)))]) ⟨hx, hb, hml, hown, hts⟩ (tX5_isLayer l D g hm md co ly nt ns nd np nq tq layer (⟨⟨by omega, by omega⟩, by omega, by omega⟩)) (cwV 1 hts gX5_diode_X5_isLayer rfl rfl rfl (by decide +kernel) ⟨Nat.le_of_ble_eq_true rfl, Nat.le_of_ble_eq_true rfl⟩) hK hP hD hS hA [7] [0, 1, 2, 3, 4, 5, 6] rfl rfl (by decide) (by decide) (by decide) (va_recv hK hP (ci := 5) (q0 := 7) rfl rfl) rfl rfl hl.1 (Nat.le_of_ble_eq_true rfl) dX5_diode_11 ⟨Nat.le_of_ble_eq_true rfl, Nat.le_of_ble_eq_true rfl⟩ (fun zl9 u H locs hu hP hD hS => ?_)
    have hu : (zl9 = 1 ∧ (0 ≤ layer ∧ layer < ly)) ∨ (zl9 = 0 ∧ ¬ (0 ≤ layer ∧ layer < ly)) := hu
    have hzl := hu
    have hP : va_P D jcl [((md 9), .inl (g.1, 100, .inl (aI tn))), ((md 10), .inl (g.1, 100, .inl (aI tl))), ((md 11), .inl (g.2.1, 100, .inr (.inl (aL ta)))), ((md 13), .inl (g.1, 60, .inl (aI qn))), ((md 14), .inl (g.1, 60, .inl (aI qs))), ((md 15), .inl (g.1, 60, .inl (aI qx))), ((md 16), .inl (g.1, 60, .inl (aI qy))), (hm, .inr (5, [.int (jI co), .int (jI ly), .int (jI nt), .ref (md 3), .int (jI ns), .ref (md 5), .ref (md 6), .ref (md 7), .int (jI nd), .ref (md 9), .ref (md 10), .ref (md 11), .int (jI np), .ref (md 13), .ref (md 14), .ref (md 15), .ref (md 16), .ref (md 17), .ref (md 18), .ref (md 19), .ref (md 20), .int (jI nq), .ref (md 22), .ref (md 23), .ref (md 24), .ref (md 25), .ref (md 26), .int (jI tq), .ref (md 28), .ref (md 29), .ref (md 30)]))] H := hP
    have hD : va_D A [((md 9), .inl (g.1, 100, .inl (aI tn))), ((md 10), .inl (g.1, 100, .inl (aI tl))), ((md 11), .inl (g.2.1, 100, .inr (.inl (aL ta)))), ((md 13), .inl (g.1, 60, .inl (aI qn))), ((md 14), .inl (g.1, 60, .inl (aI qs))), ((md 15), .inl (g.1, 60, .inl (aI qx))), ((md 16), .inl (g.1, 60, .inl (aI qy))), (hm, .inr (5, [.int (jI co), .int (jI ly), .int (jI nt), .ref (md 3), .int (jI ns), .ref (md 5), .ref (md 6), .ref (md 7), .int (jI nd), .ref (md 9), .ref (md 10), .ref (md 11), .int (jI np), .ref (md 13), .ref (md 14), .ref (md 15), .ref (md 16), .ref (md 17), .ref (md 18), .ref (md 19), .ref (md 20), .int (jI nq), .ref (md 22), .ref (md 23), .ref (md 24), .ref (md 25), .ref (md 26), .int (jI tq), .ref (md 28), .ref (md 29), .ref (md 30)]))] := hD
    refine jv_if_ne (tgt := 21) hx hb ⟨by omega, by omega⟩ dX5_diode_14 (by decide) (fun c14 => ?_) (fun c14 => ?_)
    · skip
      refine lv_aload_n hx hb dX5_diode_21 rfl (lv_at hl 0 rfl) ?_
      refine va_get (D := D) (ci := 5) (v := .int (jI nd)) (C := RX5) (T := TX5) (N := 31) hx hb hts inX5 hown hK hP 7 rfl rfl 8 (by decide) f136 (fun _ h9 => h9) rfl dX5_diode_22 ?_
      refine jv_bipush hx hb (by decide) dX5_diode_25 ?_
      refine jv_icmp_ne (tgt := 34) hx hb ⟨by omega, by omega⟩ ⟨by decide, by decide⟩ dX5_diode_27 (by decide) (fun c27 => ?_) (fun c27 => ?_)
      · skip
        refine lv_lload_n hx hb dX5_diode_34 rfl (lv_at hl 3 rfl) ?_
        refine jv_lconst1 hx hb dX5_diode_35 ?_
        refine jv_lcmp_lt (tgt := 48) hx hb ⟨by omega, by omega⟩ ⟨by decide, by decide⟩ dX5_diode_36 dX5_diode_37 (by decide) (fun c36 => ?_) (fun c36 => ?_)
        · skip
          refine jv_iconst hx hb dX5_diode_48 ?_
          refine lv_goto (tgt := 53) hx hb dX5_diode_49 (by decide) ?_
          exact JC 3 (by omega) _ _ _ (hP.sub [7, 0, 1, 2, 3, 4, 5, 6] rfl) (hD.sub [7, 0, 1, 2, 3, 4, 5, 6] (by decide) rfl) hS (lv_sub hl [0, 1, 2, 3] rfl)
        · skip
          refine lv_lload_n hx hb dX5_diode_40 rfl (lv_at hl 3 rfl) ?_
          refine jv_ldc2 (n := 1000000) hx hb (by decide) hown k132 dX5_diode_41 ?_
          refine jv_lcmp_le (tgt := 52) hx hb ⟨by omega, by omega⟩ ⟨by decide, by decide⟩ dX5_diode_44 dX5_diode_45 (by decide) (fun c44 => ?_) (fun c44 => ?_)
          · skip
            refine jv_iconst hx hb dX5_diode_52 ?_
            exact JC 0 (by omega) _ _ _ (hP.sub [7, 0, 1, 2, 3, 4, 5, 6] rfl) (hD.sub [7, 0, 1, 2, 3, 4, 5, 6] (by decide) rfl) hS (lv_sub hl [0, 1, 2, 3] rfl)
          · skip
            refine jv_iconst hx hb dX5_diode_48 ?_
            refine lv_goto (tgt := 53) hx hb dX5_diode_49 (by decide) ?_
            exact JC 3 (by omega) _ _ _ (hP.sub [7, 0, 1, 2, 3, 4, 5, 6] rfl) (hD.sub [7, 0, 1, 2, 3, 4, 5, 6] (by decide) rfl) hS (lv_sub hl [0, 1, 2, 3] rfl)
      · skip
        refine jv_iconst hx hb dX5_diode_30 ?_
        refine lv_goto (tgt := 53) hx hb dX5_diode_31 (by decide) ?_
        exact JC 2 (by omega) _ _ _ (hP.sub [7, 0, 1, 2, 3, 4, 5, 6] rfl) (hD.sub [7, 0, 1, 2, 3, 4, 5, 6] (by decide) rfl) hS (lv_sub hl [0, 1, 2, 3] rfl)
    · skip
      refine jv_iconst hx hb dX5_diode_17 ?_
      refine lv_goto (tgt := 53) hx hb dX5_diode_18 (by decide) ?_
      exact JC 1 (by omega) _ _ _ (hP.sub [7, 0, 1, 2, 3, 4, 5, 6] rfl) (hD.sub [7, 0, 1, 2, 3, 4, 5, 6] (by decide) rfl) hS (lv_sub hl [0, 1, 2, 3] rfl)

set_option maxHeartbeats 4000000 in
set_option maxRecDepth 100000 in
/-- shape -/
theorem tX5_shape (l : Launch) (D : va_G) (g : ClassId × ClassId × ClassId) (hm : Nat) (md : Nat → Nat) (co : Int) (ly : Int) (nt : Int) (ns : Int) (nd : Int) (np : Int) (nq : Int) (tq : Int) (sn : Int → Int) (sl : Int → Int) (bo : Int → Int) (L : List jQ) (mf : Int → Int64) (net : Int) (layer : Int) (v0 : Int) (v1 : Int) (v2 : Int) (v3 : Int) (hms : msI sn sl bo ns L) (hns : ns ≤ 200) (hnt : 0 ≤ nt ∧ nt ≤ 40) (hly : 1 ≤ ly ∧ ly ≤ 64) (hri : rI net ∧ rI layer ∧ rL v0 ∧ rL v1 ∧ rL v2 ∧ rL v3) : jMi l D g yX5_shape wsX5_shape 5 180 [.ref hm, .int (jI net), .int (jI layer), .long (jL v0), .long (jL v1), .long (jL v2), .long (jL v3)] [(hm, .inr (5, [.int (jI co), .int (jI ly), .int (jI nt), .ref (md 3), .int (jI ns), .ref (md 5), .ref (md 6), .ref (md 7), .int (jI nd), .ref (md 9), .ref (md 10), .ref (md 11), .int (jI np), .ref (md 13), .ref (md 14), .ref (md 15), .ref (md 16), .ref (md 17), .ref (md 18), .ref (md 19), .ref (md 20), .int (jI nq), .ref (md 22), .ref (md 23), .ref (md 24), .ref (md 25), .ref (md 26), .int (jI tq), .ref (md 28), .ref (md 29), .ref (md 30)])), ((md 5), .inl (g.1, 200, .inl (aI sn))), ((md 6), .inl (g.1, 200, .inl (aI sl))), ((md 7), .inl (g.1, 800, .inl (aI bo))), ((md 29), .inl (g.2.1, 16000, .inr (.inl (aW mf))))] (S := Int × Int × (Int → Int) × (Int → Int) × (Int → Int) × (Int → Int64)) (fun z u => (((u.1 = 1 ∧ ¬ ((0 ≤ net ∧ net < nt) ∧ (0 ≤ layer ∧ layer < ly))) ∨ (u.1 = 2 ∧ ((0 ≤ net ∧ net < nt) ∧ (0 ≤ layer ∧ layer < ly)) ∧ ns = 200) ∨ (u.1 = 3 ∧ ((0 ≤ net ∧ net < nt) ∧ (0 ≤ layer ∧ layer < ly)) ∧ ns < 200 ∧ ¬ ((0 ≤ v0 ∧ v0 < v2 ∧ v2 ≤ 1000) ∧ (0 ≤ v1 ∧ v1 < v3 ∧ v3 ≤ 1000)))) ∧ u.2.1 = ns ∧ u.2.2.1 = sn ∧ u.2.2.2.1 = sl ∧ u.2.2.2.2.1 = bo) ∨ (u.1 = 0 ∧ ((0 ≤ net ∧ net < nt) ∧ (0 ≤ layer ∧ layer < ly)) ∧ ns < 200 ∧ ((0 ≤ v0 ∧ v0 < v2 ∧ v2 ≤ 1000) ∧ (0 ≤ v1 ∧ v1 < v3 ∧ v3 ≤ 1000)) ∧ u.2.1 = ns + 1 ∧ msI u.2.2.1 u.2.2.2.1 u.2.2.2.2.1 u.2.1 (L ++ [(net, layer, v0, v1, v2, v3)]) ∧ ((z = 1 ∧ ar L net layer < ar (L ++ [(net, layer, v0, v1, v2, v3)]) net layer) ∨ (z = 0 ∧ ¬ ar L net layer < ar (L ++ [(net, layer, v0, v1, v2, v3)]) net layer)))) (fun u => [(hm, .inr (5, [.int (jI u.1), .int (jI ly), .int (jI nt), .ref (md 3), .int (jI u.2.1), .ref (md 5), .ref (md 6), .ref (md 7), .int (jI nd), .ref (md 9), .ref (md 10), .ref (md 11), .int (jI np), .ref (md 13), .ref (md 14), .ref (md 15), .ref (md 16), .ref (md 17), .ref (md 18), .ref (md 19), .ref (md 20), .int (jI nq), .ref (md 22), .ref (md 23), .ref (md 24), .ref (md 25), .ref (md 26), .int (jI tq), .ref (md 28), .ref (md 29), .ref (md 30)])), ((md 5), .inl (g.1, 200, .inl (aI u.2.2.1))), ((md 6), .inl (g.1, 200, .inl (aI u.2.2.2.1))), ((md 7), .inl (g.1, 800, .inl (aI u.2.2.2.2.1))), ((md 29), .inl (g.2.1, 16000, .inr (.inl (aW u.2.2.2.2.2))))]) := by
  refine jMz_of (cc := cX5_shape) (maxL := 12) (by decide) rfl (Nat.le_of_ble_eq_true rfl) ?_
  intro p e s m args below meth c Q A hx hb hml hts hown hK hA hret ls hl hP hD
  have hS : va_S A s.heap s.heap [] := va_S.rf
  have hown : s.vm.findClass RX5 = some m.cls := hown
  have f13 := hts (.fieldLink RX5 13 "AntennaFillModel" "shapeNet" "[I") (by decide +kernel)
  have f17 := hts (.fieldLink RX5 17 "AntennaFillModel" "shapeLayer" "[I") (by decide +kernel)
  have f20 := hts (.fieldLink RX5 20 "AntennaFillModel" "box" "[I") (by decide +kernel)
  have f84 := hts (.fieldLink RX5 84 "AntennaFillModel" "code" "I") (by decide +kernel)
  have f102 := hts (.fieldLink RX5 102 "AntennaFillModel" "shapes" "I") (by decide +kernel)
  have inX5 : ∀ w ∈ wsX50, w ∈ wsX5_shape := by decide +kernel
  have hl : lv_has ls 12 [(0, .ref hm), (1, .int (jI net)), (2, .int (jI layer)), (3, .long (jL v0)), (5, .long (jL v1)), (7, .long (jL v2)), (9, .long (jL v3))] := hl
  have hlen := hms.1
  have JC : ∀ (cv9 : Int), ((cv9 = 1 ∧ ¬ ((0 ≤ net ∧ net < nt) ∧ (0 ≤ layer ∧ layer < ly))) ∨ (cv9 = 2 ∧ ((0 ≤ net ∧ net < nt) ∧ (0 ≤ layer ∧ layer < ly)) ∧ ns = 200) ∨ (cv9 = 3 ∧ ((0 ≤ net ∧ net < nt) ∧ (0 ≤ layer ∧ layer < ly)) ∧ ns < 200 ∧ ¬ ((0 ≤ v0 ∧ v0 < v2 ∧ v2 ≤ 1000) ∧ (0 ≤ v1 ∧ v1 < v3 ∧ v3 ≤ 1000))) ∨ (cv9 = 0 ∧ ((0 ≤ net ∧ net < nt) ∧ (0 ≤ layer ∧ layer < ly)) ∧ ns < 200 ∧ ((0 ≤ v0 ∧ v0 < v2 ∧ v2 ≤ 1000) ∧ (0 ≤ v1 ∧ v1 < v3 ∧ v3 ≤ 1000)))) → ∀ (H : Heap) (locs : List Loc) (ls : Array Slot), va_P D jcl [(hm, .inr (5, [.int (jI co), .int (jI ly), .int (jI nt), .ref (md 3), .int (jI ns), .ref (md 5), .ref (md 6), .ref (md 7), .int (jI nd), .ref (md 9), .ref (md 10), .ref (md 11), .int (jI np), .ref (md 13), .ref (md 14), .ref (md 15), .ref (md 16), .ref (md 17), .ref (md 18), .ref (md 19), .ref (md 20), .int (jI nq), .ref (md 22), .ref (md 23), .ref (md 24), .ref (md 25), .ref (md 26), .int (jI tq), .ref (md 28), .ref (md 29), .ref (md 30)])), ((md 5), .inl (g.1, 200, .inl (aI sn))), ((md 6), .inl (g.1, 200, .inl (aI sl))), ((md 7), .inl (g.1, 800, .inl (aI bo))), ((md 29), .inl (g.2.1, 16000, .inr (.inl (aW mf))))] H → va_D A [(hm, .inr (5, [.int (jI co), .int (jI ly), .int (jI nt), .ref (md 3), .int (jI ns), .ref (md 5), .ref (md 6), .ref (md 7), .int (jI nd), .ref (md 9), .ref (md 10), .ref (md 11), .int (jI np), .ref (md 13), .ref (md 14), .ref (md 15), .ref (md 16), .ref (md 17), .ref (md 18), .ref (md 19), .ref (md 20), .int (jI nq), .ref (md 22), .ref (md 23), .ref (md 24), .ref (md 25), .ref (md 26), .int (jI tq), .ref (md 28), .ref (md 29), .ref (md 30)])), ((md 5), .inl (g.1, 200, .inl (aI sn))), ((md 6), .inl (g.1, 200, .inl (aI sl))), ((md 7), .inl (g.1, 800, .inl (aI bo))), ((md 29), .inl (g.2.1, 16000, .inr (.inl (aW mf))))] → va_S A s.heap H locs → lv_has ls 12 [(0, .ref hm), (1, .int (jI net)), (2, .int (jI layer)), (3, .long (jL v0)), (5, .long (jL v1)), (7, .long (jL v2)), (9, .long (jL v3))] → W p l e (jR 5 180) s m args below meth c H locs 0 0 Q (F0 m 59 ls [.int (jI cv9), .ref hm]) := by
    intro cv9 hcv H locs ls hP hD hS hl
    refine va_put (D := D) (ci := 5) (v := .int (jI cv9)) (ty := .int) (C := RX5) (T := TX5) (N := 31) hx hb hts inX5 tyX5 tyX5_ok nmX5 hown hK hP hD hS 0 rfl rfl 0 (by decide) f84 (fun _ h9 => h9) rfl (by decide +kernel) rfl rfl (Nat.le_of_ble_eq_true rfl) dX5_shape_59 (fun H locs hP hD hS => ?_)
    have hP : va_P D jcl [(hm, .inr (5, [.int (jI cv9), .int (jI ly), .int (jI nt), .ref (md 3), .int (jI ns), .ref (md 5), .ref (md 6), .ref (md 7), .int (jI nd), .ref (md 9), .ref (md 10), .ref (md 11), .int (jI np), .ref (md 13), .ref (md 14), .ref (md 15), .ref (md 16), .ref (md 17), .ref (md 18), .ref (md 19), .ref (md 20), .int (jI nq), .ref (md 22), .ref (md 23), .ref (md 24), .ref (md 25), .ref (md 26), .int (jI tq), .ref (md 28), .ref (md 29), .ref (md 30)])), ((md 5), .inl (g.1, 200, .inl (aI sn))), ((md 6), .inl (g.1, 200, .inl (aI sl))), ((md 7), .inl (g.1, 800, .inl (aI bo))), ((md 29), .inl (g.2.1, 16000, .inr (.inl (aW mf))))] H := hP
    have hD : va_D A [(hm, .inr (5, [.int (jI cv9), .int (jI ly), .int (jI nt), .ref (md 3), .int (jI ns), .ref (md 5), .ref (md 6), .ref (md 7), .int (jI nd), .ref (md 9), .ref (md 10), .ref (md 11), .int (jI np), .ref (md 13), .ref (md 14), .ref (md 15), .ref (md 16), .ref (md 17), .ref (md 18), .ref (md 19), .ref (md 20), .int (jI nq), .ref (md 22), .ref (md 23), .ref (md 24), .ref (md 25), .ref (md 26), .int (jI tq), .ref (md 28), .ref (md 29), .ref (md 30)])), ((md 5), .inl (g.1, 200, .inl (aI sn))), ((md 6), .inl (g.1, 200, .inl (aI sl))), ((md 7), .inl (g.1, 800, .inl (aI bo))), ((md 29), .inl (g.2.1, 16000, .inr (.inl (aW mf))))] := hD
    refine lv_aload_n hx hb dX5_shape_62 rfl (lv_at hl 0 rfl) ?_
    refine va_get (D := D) (ci := 5) (v := .int (jI cv9)) (C := RX5) (T := TX5) (N := 31) hx hb hts inX5 hown hK hP 0 rfl rfl 0 (by decide) f84 (fun _ h9 => h9) rfl dX5_shape_63 ?_
    refine jv_if_le (tgt := 71) hx hb ⟨by omega, by omega⟩ dX5_shape_66 (by decide) (fun c66 => ?_) (fun c66 => ?_)
    · skip
      refine lv_aload_n hx hb dX5_shape_71 rfl (lv_at hl 0 rfl) ?_
      refine lv_iload_n hx hb dX5_shape_72 rfl (lv_at hl 1 rfl) ?_
      refine lv_iload_n hx hb dX5_shape_73 rfl (lv_at hl 2 rfl) ?_
      refine jc_Vi (As := [.int (jI net), .int (jI layer)]) (rest := []) (wq := []) ⟨hx, hb, hml, hown, hts⟩ (tX5_coveredBy l D g hm md cv9 ly nt ns nd np nq tq sn sl bo L mf net layer (hms) (hns) (⟨by omega, by omega⟩) (⟨by omega, by omega⟩)) (cwV 2 hts gX5_shape_X5_coveredBy rfl rfl rfl (by decide +kernel) ⟨Nat.le_of_ble_eq_true rfl, Nat.le_of_ble_eq_true rfl⟩) hK hP hD hS hA [0, 1, 2, 3, 4] [] rfl rfl (by decide) (by decide) (by decide) (va_recv hK hP (ci := 5) (q0 := 0) rfl rfl) rfl rfl hl.1 (Nat.le_of_ble_eq_true rfl) dX5_shape_74 ⟨Nat.le_of_ble_eq_true rfl, Nat.le_of_ble_eq_true rfl⟩ (fun za1 u H locs hu hP hD hS => ?_)
      obtain ⟨mf1, rfl⟩ : ∃ z9, z9 = u := ⟨_, rfl⟩
      have hu : za1 = ar L net layer := hu
      have hza1 := hu
      have hP : va_P D jcl [(hm, .inr (5, [.int (jI cv9), .int (jI ly), .int (jI nt), .ref (md 3), .int (jI ns), .ref (md 5), .ref (md 6), .ref (md 7), .int (jI nd), .ref (md 9), .ref (md 10), .ref (md 11), .int (jI np), .ref (md 13), .ref (md 14), .ref (md 15), .ref (md 16), .ref (md 17), .ref (md 18), .ref (md 19), .ref (md 20), .int (jI nq), .ref (md 22), .ref (md 23), .ref (md 24), .ref (md 25), .ref (md 26), .int (jI tq), .ref (md 28), .ref (md 29), .ref (md 30)])), ((md 5), .inl (g.1, 200, .inl (aI sn))), ((md 6), .inl (g.1, 200, .inl (aI sl))), ((md 7), .inl (g.1, 800, .inl (aI bo))), ((md 29), .inl (g.2.1, 16000, .inr (.inl (aW mf1))))] H := hP
      have hD : va_D A [(hm, .inr (5, [.int (jI cv9), .int (jI ly), .int (jI nt), .ref (md 3), .int (jI ns), .ref (md 5), .ref (md 6), .ref (md 7), .int (jI nd), .ref (md 9), .ref (md 10), .ref (md 11), .int (jI np), .ref (md 13), .ref (md 14), .ref (md 15), .ref (md 16), .ref (md 17), .ref (md 18), .ref (md 19), .ref (md 20), .int (jI nq), .ref (md 22), .ref (md 23), .ref (md 24), .ref (md 25), .ref (md 26), .int (jI tq), .ref (md 28), .ref (md 29), .ref (md 30)])), ((md 5), .inl (g.1, 200, .inl (aI sn))), ((md 6), .inl (g.1, 200, .inl (aI sl))), ((md 7), .inl (g.1, 800, .inl (aI bo))), ((md 29), .inl (g.2.1, 16000, .inr (.inl (aW mf1))))] := hD
      refine lv_istore (lv' := [(11, .int (jI za1)), (0, .ref hm), (1, .int (jI net)), (2, .int (jI layer)), (3, .long (jL v0)), (5, .long (jL v1)), (7, .long (jL v2)), (9, .long (jL v3))]) hx hb dX5_shape_77 hl (by decide) rfl (fun ls hl => ?_)
      have hab1 := ar_bd L net layer
      refine lv_aload_n hx hb dX5_shape_79 rfl (lv_at hl 1 rfl) ?_
      refine va_get (D := D) (ci := 5) (v := .ref (md 5)) (C := RX5) (T := TX5) (N := 31) hx hb hts inX5 hown hK hP 0 rfl rfl 5 (by decide) f13 (fun _ h9 => h9) rfl dX5_shape_80 ?_
      refine lv_aload_n hx hb dX5_shape_83 rfl (lv_at hl 1 rfl) ?_
      refine va_get (D := D) (ci := 5) (v := .int (jI ns)) (C := RX5) (T := TX5) (N := 31) hx hb hts inX5 hown hK hP 0 rfl rfl 4 (by decide) f102 (fun _ h9 => h9) rfl dX5_shape_84 ?_
      refine lv_iload_n hx hb dX5_shape_87 rfl (lv_at hl 2 rfl) ?_
      refine jv_iast hx hb hK hP hD hS 1 0 rfl rfl (i := ns) (x := net) ⟨by omega, by omega⟩ (Nat.le_of_ble_eq_true rfl) dX5_shape_88 (fun H locs hP hD hS => ?_)
      have hP : va_P D jcl [(hm, .inr (5, [.int (jI cv9), .int (jI ly), .int (jI nt), .ref (md 3), .int (jI ns), .ref (md 5), .ref (md 6), .ref (md 7), .int (jI nd), .ref (md 9), .ref (md 10), .ref (md 11), .int (jI np), .ref (md 13), .ref (md 14), .ref (md 15), .ref (md 16), .ref (md 17), .ref (md 18), .ref (md 19), .ref (md 20), .int (jI nq), .ref (md 22), .ref (md 23), .ref (md 24), .ref (md 25), .ref (md 26), .int (jI tq), .ref (md 28), .ref (md 29), .ref (md 30)])), ((md 5), .inl (g.1, 200, .inl (aI (upI sn ns net)))), ((md 6), .inl (g.1, 200, .inl (aI sl))), ((md 7), .inl (g.1, 800, .inl (aI bo))), ((md 29), .inl (g.2.1, 16000, .inr (.inl (aW mf1))))] H := hP
      have hD : va_D A [(hm, .inr (5, [.int (jI cv9), .int (jI ly), .int (jI nt), .ref (md 3), .int (jI ns), .ref (md 5), .ref (md 6), .ref (md 7), .int (jI nd), .ref (md 9), .ref (md 10), .ref (md 11), .int (jI np), .ref (md 13), .ref (md 14), .ref (md 15), .ref (md 16), .ref (md 17), .ref (md 18), .ref (md 19), .ref (md 20), .int (jI nq), .ref (md 22), .ref (md 23), .ref (md 24), .ref (md 25), .ref (md 26), .int (jI tq), .ref (md 28), .ref (md 29), .ref (md 30)])), ((md 5), .inl (g.1, 200, .inl (aI (upI sn ns net)))), ((md 6), .inl (g.1, 200, .inl (aI sl))), ((md 7), .inl (g.1, 800, .inl (aI bo))), ((md 29), .inl (g.2.1, 16000, .inr (.inl (aW mf1))))] := hD
      refine lv_aload_n hx hb dX5_shape_89 rfl (lv_at hl 1 rfl) ?_
      refine va_get (D := D) (ci := 5) (v := .ref (md 6)) (C := RX5) (T := TX5) (N := 31) hx hb hts inX5 hown hK hP 0 rfl rfl 6 (by decide) f17 (fun _ h9 => h9) rfl dX5_shape_90 ?_
      refine lv_aload_n hx hb dX5_shape_93 rfl (lv_at hl 1 rfl) ?_
      refine va_get (D := D) (ci := 5) (v := .int (jI ns)) (C := RX5) (T := TX5) (N := 31) hx hb hts inX5 hown hK hP 0 rfl rfl 4 (by decide) f102 (fun _ h9 => h9) rfl dX5_shape_94 ?_
      refine lv_iload_n hx hb dX5_shape_97 rfl (lv_at hl 3 rfl) ?_
      refine jv_iast hx hb hK hP hD hS 2 0 rfl rfl (i := ns) (x := layer) ⟨by omega, by omega⟩ (Nat.le_of_ble_eq_true rfl) dX5_shape_98 (fun H locs hP hD hS => ?_)
      have hP : va_P D jcl [(hm, .inr (5, [.int (jI cv9), .int (jI ly), .int (jI nt), .ref (md 3), .int (jI ns), .ref (md 5), .ref (md 6), .ref (md 7), .int (jI nd), .ref (md 9), .ref (md 10), .ref (md 11), .int (jI np), .ref (md 13), .ref (md 14), .ref (md 15), .ref (md 16), .ref (md 17), .ref (md 18), .ref (md 19), .ref (md 20), .int (jI nq), .ref (md 22), .ref (md 23), .ref (md 24), .ref (md 25), .ref (md 26), .int (jI tq), .ref (md 28), .ref (md 29), .ref (md 30)])), ((md 5), .inl (g.1, 200, .inl (aI (upI sn ns net)))), ((md 6), .inl (g.1, 200, .inl (aI (upI sl ns layer)))), ((md 7), .inl (g.1, 800, .inl (aI bo))), ((md 29), .inl (g.2.1, 16000, .inr (.inl (aW mf1))))] H := hP
      have hD : va_D A [(hm, .inr (5, [.int (jI cv9), .int (jI ly), .int (jI nt), .ref (md 3), .int (jI ns), .ref (md 5), .ref (md 6), .ref (md 7), .int (jI nd), .ref (md 9), .ref (md 10), .ref (md 11), .int (jI np), .ref (md 13), .ref (md 14), .ref (md 15), .ref (md 16), .ref (md 17), .ref (md 18), .ref (md 19), .ref (md 20), .int (jI nq), .ref (md 22), .ref (md 23), .ref (md 24), .ref (md 25), .ref (md 26), .int (jI tq), .ref (md 28), .ref (md 29), .ref (md 30)])), ((md 5), .inl (g.1, 200, .inl (aI (upI sn ns net)))), ((md 6), .inl (g.1, 200, .inl (aI (upI sl ns layer)))), ((md 7), .inl (g.1, 800, .inl (aI bo))), ((md 29), .inl (g.2.1, 16000, .inr (.inl (aW mf1))))] := hD
      refine lv_aload_n hx hb dX5_shape_99 rfl (lv_at hl 1 rfl) ?_
      refine va_get (D := D) (ci := 5) (v := .ref (md 7)) (C := RX5) (T := TX5) (N := 31) hx hb hts inX5 hown hK hP 0 rfl rfl 7 (by decide) f20 (fun _ h9 => h9) rfl dX5_shape_100 ?_
      refine jv_iconst hx hb dX5_shape_103 ?_
      refine lv_aload_n hx hb dX5_shape_104 rfl (lv_at hl 1 rfl) ?_
      refine va_get (D := D) (ci := 5) (v := .int (jI ns)) (C := RX5) (T := TX5) (N := 31) hx hb hts inX5 hown hK hP 0 rfl rfl 4 (by decide) f102 (fun _ h9 => h9) rfl dX5_shape_105 ?_
      refine jv_imul hx hb dX5_shape_108 ?_
      refine lv_lload_n hx hb dX5_shape_109 rfl (lv_at hl 4 rfl) ?_
      refine jv_l2i hx hb dX5_shape_110 ?_
      refine jv_iast hx hb hK hP hD hS 3 0 rfl rfl (i := (4 * ns)) (x := v0) ⟨by omega, by omega⟩ (Nat.le_of_ble_eq_true rfl) dX5_shape_111 (fun H locs hP hD hS => ?_)
      have hP : va_P D jcl [(hm, .inr (5, [.int (jI cv9), .int (jI ly), .int (jI nt), .ref (md 3), .int (jI ns), .ref (md 5), .ref (md 6), .ref (md 7), .int (jI nd), .ref (md 9), .ref (md 10), .ref (md 11), .int (jI np), .ref (md 13), .ref (md 14), .ref (md 15), .ref (md 16), .ref (md 17), .ref (md 18), .ref (md 19), .ref (md 20), .int (jI nq), .ref (md 22), .ref (md 23), .ref (md 24), .ref (md 25), .ref (md 26), .int (jI tq), .ref (md 28), .ref (md 29), .ref (md 30)])), ((md 5), .inl (g.1, 200, .inl (aI (upI sn ns net)))), ((md 6), .inl (g.1, 200, .inl (aI (upI sl ns layer)))), ((md 7), .inl (g.1, 800, .inl (aI (upI bo (4 * ns) v0)))), ((md 29), .inl (g.2.1, 16000, .inr (.inl (aW mf1))))] H := hP
      have hD : va_D A [(hm, .inr (5, [.int (jI cv9), .int (jI ly), .int (jI nt), .ref (md 3), .int (jI ns), .ref (md 5), .ref (md 6), .ref (md 7), .int (jI nd), .ref (md 9), .ref (md 10), .ref (md 11), .int (jI np), .ref (md 13), .ref (md 14), .ref (md 15), .ref (md 16), .ref (md 17), .ref (md 18), .ref (md 19), .ref (md 20), .int (jI nq), .ref (md 22), .ref (md 23), .ref (md 24), .ref (md 25), .ref (md 26), .int (jI tq), .ref (md 28), .ref (md 29), .ref (md 30)])), ((md 5), .inl (g.1, 200, .inl (aI (upI sn ns net)))), ((md 6), .inl (g.1, 200, .inl (aI (upI sl ns layer)))), ((md 7), .inl (g.1, 800, .inl (aI (upI bo (4 * ns) v0)))), ((md 29), .inl (g.2.1, 16000, .inr (.inl (aW mf1))))] := hD
      refine lv_aload_n hx hb dX5_shape_112 rfl (lv_at hl 1 rfl) ?_
      refine va_get (D := D) (ci := 5) (v := .ref (md 7)) (C := RX5) (T := TX5) (N := 31) hx hb hts inX5 hown hK hP 0 rfl rfl 7 (by decide) f20 (fun _ h9 => h9) rfl dX5_shape_113 ?_
      refine jv_iconst hx hb dX5_shape_116 ?_
      refine lv_aload_n hx hb dX5_shape_117 rfl (lv_at hl 1 rfl) ?_
      refine va_get (D := D) (ci := 5) (v := .int (jI ns)) (C := RX5) (T := TX5) (N := 31) hx hb hts inX5 hown hK hP 0 rfl rfl 4 (by decide) f102 (fun _ h9 => h9) rfl dX5_shape_118 ?_
      refine jv_imul hx hb dX5_shape_121 ?_
      refine jv_iconst hx hb dX5_shape_122 ?_
      refine jv_iadd hx hb dX5_shape_123 ?_
      refine lv_lload hx hb dX5_shape_124 (lv_at hl 5 rfl) ?_
      refine jv_l2i hx hb dX5_shape_126 ?_
      refine jv_iast hx hb hK hP hD hS 3 0 rfl rfl (i := ((4 * ns) + 1)) (x := v1) ⟨by omega, by omega⟩ (Nat.le_of_ble_eq_true rfl) dX5_shape_127 (fun H locs hP hD hS => ?_)
      have hP : va_P D jcl [(hm, .inr (5, [.int (jI cv9), .int (jI ly), .int (jI nt), .ref (md 3), .int (jI ns), .ref (md 5), .ref (md 6), .ref (md 7), .int (jI nd), .ref (md 9), .ref (md 10), .ref (md 11), .int (jI np), .ref (md 13), .ref (md 14), .ref (md 15), .ref (md 16), .ref (md 17), .ref (md 18), .ref (md 19), .ref (md 20), .int (jI nq), .ref (md 22), .ref (md 23), .ref (md 24), .ref (md 25), .ref (md 26), .int (jI tq), .ref (md 28), .ref (md 29), .ref (md 30)])), ((md 5), .inl (g.1, 200, .inl (aI (upI sn ns net)))), ((md 6), .inl (g.1, 200, .inl (aI (upI sl ns layer)))), ((md 7), .inl (g.1, 800, .inl (aI (upI (upI bo (4 * ns) v0) ((4 * ns) + 1) v1)))), ((md 29), .inl (g.2.1, 16000, .inr (.inl (aW mf1))))] H := hP
      have hD : va_D A [(hm, .inr (5, [.int (jI cv9), .int (jI ly), .int (jI nt), .ref (md 3), .int (jI ns), .ref (md 5), .ref (md 6), .ref (md 7), .int (jI nd), .ref (md 9), .ref (md 10), .ref (md 11), .int (jI np), .ref (md 13), .ref (md 14), .ref (md 15), .ref (md 16), .ref (md 17), .ref (md 18), .ref (md 19), .ref (md 20), .int (jI nq), .ref (md 22), .ref (md 23), .ref (md 24), .ref (md 25), .ref (md 26), .int (jI tq), .ref (md 28), .ref (md 29), .ref (md 30)])), ((md 5), .inl (g.1, 200, .inl (aI (upI sn ns net)))), ((md 6), .inl (g.1, 200, .inl (aI (upI sl ns layer)))), ((md 7), .inl (g.1, 800, .inl (aI (upI (upI bo (4 * ns) v0) ((4 * ns) + 1) v1)))), ((md 29), .inl (g.2.1, 16000, .inr (.inl (aW mf1))))] := hD
      refine lv_aload_n hx hb dX5_shape_128 rfl (lv_at hl 1 rfl) ?_
      refine va_get (D := D) (ci := 5) (v := .ref (md 7)) (C := RX5) (T := TX5) (N := 31) hx hb hts inX5 hown hK hP 0 rfl rfl 7 (by decide) f20 (fun _ h9 => h9) rfl dX5_shape_129 ?_
      refine jv_iconst hx hb dX5_shape_132 ?_
      refine lv_aload_n hx hb dX5_shape_133 rfl (lv_at hl 1 rfl) ?_
      refine va_get (D := D) (ci := 5) (v := .int (jI ns)) (C := RX5) (T := TX5) (N := 31) hx hb hts inX5 hown hK hP 0 rfl rfl 4 (by decide) f102 (fun _ h9 => h9) rfl dX5_shape_134 ?_
      refine jv_imul hx hb dX5_shape_137 ?_
      refine jv_iconst hx hb dX5_shape_138 ?_
      refine jv_iadd hx hb dX5_shape_139 ?_
      refine lv_lload hx hb dX5_shape_140 (lv_at hl 6 rfl) ?_
      refine jv_l2i hx hb dX5_shape_142 ?_
      refine jv_iast hx hb hK hP hD hS 3 0 rfl rfl (i := ((4 * ns) + 2)) (x := v2) ⟨by omega, by omega⟩ (Nat.le_of_ble_eq_true rfl) dX5_shape_143 (fun H locs hP hD hS => ?_)
      have hP : va_P D jcl [(hm, .inr (5, [.int (jI cv9), .int (jI ly), .int (jI nt), .ref (md 3), .int (jI ns), .ref (md 5), .ref (md 6), .ref (md 7), .int (jI nd), .ref (md 9), .ref (md 10), .ref (md 11), .int (jI np), .ref (md 13), .ref (md 14), .ref (md 15), .ref (md 16), .ref (md 17), .ref (md 18), .ref (md 19), .ref (md 20), .int (jI nq), .ref (md 22), .ref (md 23), .ref (md 24), .ref (md 25), .ref (md 26), .int (jI tq), .ref (md 28), .ref (md 29), .ref (md 30)])), ((md 5), .inl (g.1, 200, .inl (aI (upI sn ns net)))), ((md 6), .inl (g.1, 200, .inl (aI (upI sl ns layer)))), ((md 7), .inl (g.1, 800, .inl (aI (upI (upI (upI bo (4 * ns) v0) ((4 * ns) + 1) v1) ((4 * ns) + 2) v2)))), ((md 29), .inl (g.2.1, 16000, .inr (.inl (aW mf1))))] H := hP
      have hD : va_D A [(hm, .inr (5, [.int (jI cv9), .int (jI ly), .int (jI nt), .ref (md 3), .int (jI ns), .ref (md 5), .ref (md 6), .ref (md 7), .int (jI nd), .ref (md 9), .ref (md 10), .ref (md 11), .int (jI np), .ref (md 13), .ref (md 14), .ref (md 15), .ref (md 16), .ref (md 17), .ref (md 18), .ref (md 19), .ref (md 20), .int (jI nq), .ref (md 22), .ref (md 23), .ref (md 24), .ref (md 25), .ref (md 26), .int (jI tq), .ref (md 28), .ref (md 29), .ref (md 30)])), ((md 5), .inl (g.1, 200, .inl (aI (upI sn ns net)))), ((md 6), .inl (g.1, 200, .inl (aI (upI sl ns layer)))), ((md 7), .inl (g.1, 800, .inl (aI (upI (upI (upI bo (4 * ns) v0) ((4 * ns) + 1) v1) ((4 * ns) + 2) v2)))), ((md 29), .inl (g.2.1, 16000, .inr (.inl (aW mf1))))] := hD
      refine lv_aload_n hx hb dX5_shape_144 rfl (lv_at hl 1 rfl) ?_
      refine va_get (D := D) (ci := 5) (v := .ref (md 7)) (C := RX5) (T := TX5) (N := 31) hx hb hts inX5 hown hK hP 0 rfl rfl 7 (by decide) f20 (fun _ h9 => h9) rfl dX5_shape_145 ?_
      refine jv_iconst hx hb dX5_shape_148 ?_
      refine lv_aload_n hx hb dX5_shape_149 rfl (lv_at hl 1 rfl) ?_
      refine va_get (D := D) (ci := 5) (v := .int (jI ns)) (C := RX5) (T := TX5) (N := 31) hx hb hts inX5 hown hK hP 0 rfl rfl 4 (by decide) f102 (fun _ h9 => h9) rfl dX5_shape_150 ?_
      refine jv_imul hx hb dX5_shape_153 ?_
      refine jv_iconst hx hb dX5_shape_154 ?_
      refine jv_iadd hx hb dX5_shape_155 ?_
      refine lv_lload hx hb dX5_shape_156 (lv_at hl 7 rfl) ?_
      refine jv_l2i hx hb dX5_shape_158 ?_
      refine jv_iast hx hb hK hP hD hS 3 0 rfl rfl (i := ((4 * ns) + 3)) (x := v3) ⟨by omega, by omega⟩ (Nat.le_of_ble_eq_true rfl) dX5_shape_159 (fun H locs hP hD hS => ?_)
      have hP : va_P D jcl [(hm, .inr (5, [.int (jI cv9), .int (jI ly), .int (jI nt), .ref (md 3), .int (jI ns), .ref (md 5), .ref (md 6), .ref (md 7), .int (jI nd), .ref (md 9), .ref (md 10), .ref (md 11), .int (jI np), .ref (md 13), .ref (md 14), .ref (md 15), .ref (md 16), .ref (md 17), .ref (md 18), .ref (md 19), .ref (md 20), .int (jI nq), .ref (md 22), .ref (md 23), .ref (md 24), .ref (md 25), .ref (md 26), .int (jI tq), .ref (md 28), .ref (md 29), .ref (md 30)])), ((md 5), .inl (g.1, 200, .inl (aI (upI sn ns net)))), ((md 6), .inl (g.1, 200, .inl (aI (upI sl ns layer)))), ((md 7), .inl (g.1, 800, .inl (aI (upI (upI (upI (upI bo (4 * ns) v0) ((4 * ns) + 1) v1) ((4 * ns) + 2) v2) ((4 * ns) + 3) v3)))), ((md 29), .inl (g.2.1, 16000, .inr (.inl (aW mf1))))] H := hP
      have hD : va_D A [(hm, .inr (5, [.int (jI cv9), .int (jI ly), .int (jI nt), .ref (md 3), .int (jI ns), .ref (md 5), .ref (md 6), .ref (md 7), .int (jI nd), .ref (md 9), .ref (md 10), .ref (md 11), .int (jI np), .ref (md 13), .ref (md 14), .ref (md 15), .ref (md 16), .ref (md 17), .ref (md 18), .ref (md 19), .ref (md 20), .int (jI nq), .ref (md 22), .ref (md 23), .ref (md 24), .ref (md 25), .ref (md 26), .int (jI tq), .ref (md 28), .ref (md 29), .ref (md 30)])), ((md 5), .inl (g.1, 200, .inl (aI (upI sn ns net)))), ((md 6), .inl (g.1, 200, .inl (aI (upI sl ns layer)))), ((md 7), .inl (g.1, 800, .inl (aI (upI (upI (upI (upI bo (4 * ns) v0) ((4 * ns) + 1) v1) ((4 * ns) + 2) v2) ((4 * ns) + 3) v3)))), ((md 29), .inl (g.2.1, 16000, .inr (.inl (aW mf1))))] := hD
      refine lv_aload_n hx hb dX5_shape_160 rfl (lv_at hl 1 rfl) ?_
      refine lv_dup hx hb dX5_shape_161 rfl ?_
      refine va_get (D := D) (ci := 5) (v := .int (jI ns)) (C := RX5) (T := TX5) (N := 31) hx hb hts inX5 hown hK hP 0 rfl rfl 4 (by decide) f102 (fun _ h9 => h9) rfl dX5_shape_162 ?_
      refine jv_iconst hx hb dX5_shape_165 ?_
      refine jv_iadd hx hb dX5_shape_166 ?_
      refine va_put (D := D) (ci := 5) (v := .int (jI (ns + 1))) (ty := .int) (C := RX5) (T := TX5) (N := 31) hx hb hts inX5 tyX5 tyX5_ok nmX5 hown hK hP hD hS 0 rfl rfl 4 (by decide) f102 (fun _ h9 => h9) rfl (by decide +kernel) rfl rfl (Nat.le_of_ble_eq_true rfl) dX5_shape_167 (fun H locs hP hD hS => ?_)
      have hP : va_P D jcl [(hm, .inr (5, [.int (jI cv9), .int (jI ly), .int (jI nt), .ref (md 3), .int (jI (ns + 1)), .ref (md 5), .ref (md 6), .ref (md 7), .int (jI nd), .ref (md 9), .ref (md 10), .ref (md 11), .int (jI np), .ref (md 13), .ref (md 14), .ref (md 15), .ref (md 16), .ref (md 17), .ref (md 18), .ref (md 19), .ref (md 20), .int (jI nq), .ref (md 22), .ref (md 23), .ref (md 24), .ref (md 25), .ref (md 26), .int (jI tq), .ref (md 28), .ref (md 29), .ref (md 30)])), ((md 5), .inl (g.1, 200, .inl (aI (upI sn ns net)))), ((md 6), .inl (g.1, 200, .inl (aI (upI sl ns layer)))), ((md 7), .inl (g.1, 800, .inl (aI (upI (upI (upI (upI bo (4 * ns) v0) ((4 * ns) + 1) v1) ((4 * ns) + 2) v2) ((4 * ns) + 3) v3)))), ((md 29), .inl (g.2.1, 16000, .inr (.inl (aW mf1))))] H := hP
      have hD : va_D A [(hm, .inr (5, [.int (jI cv9), .int (jI ly), .int (jI nt), .ref (md 3), .int (jI (ns + 1)), .ref (md 5), .ref (md 6), .ref (md 7), .int (jI nd), .ref (md 9), .ref (md 10), .ref (md 11), .int (jI np), .ref (md 13), .ref (md 14), .ref (md 15), .ref (md 16), .ref (md 17), .ref (md 18), .ref (md 19), .ref (md 20), .int (jI nq), .ref (md 22), .ref (md 23), .ref (md 24), .ref (md 25), .ref (md 26), .int (jI tq), .ref (md 28), .ref (md 29), .ref (md 30)])), ((md 5), .inl (g.1, 200, .inl (aI (upI sn ns net)))), ((md 6), .inl (g.1, 200, .inl (aI (upI sl ns layer)))), ((md 7), .inl (g.1, 800, .inl (aI (upI (upI (upI (upI bo (4 * ns) v0) ((4 * ns) + 1) v1) ((4 * ns) + 2) v2) ((4 * ns) + 3) v3)))), ((md 29), .inl (g.2.1, 16000, .inr (.inl (aW mf1))))] := hD
      have hmq : msI (upI sn ns net) (upI sl ns layer) (upI (upI (upI (upI bo (4 * ns) v0) ((4 * ns) + 1) v1) ((4 * ns) + 2) v2) ((4 * ns) + 3) v3) (ns + 1) (L ++ [(net, layer, v0, v1, v2, v3)]) := msI_s hms ⟨by omega, by omega⟩ ⟨by omega, by omega⟩ (by omega)
      refine lv_aload_n hx hb dX5_shape_170 rfl (lv_at hl 1 rfl) ?_
      refine lv_iload_n hx hb dX5_shape_171 rfl (lv_at hl 2 rfl) ?_
      refine lv_iload_n hx hb dX5_shape_172 rfl (lv_at hl 3 rfl) ?_
      refine jc_Vi (As := [.int (jI net), .int (jI layer)]) (rest := []) (wq := []) ⟨hx, hb, hml, hown, hts⟩ (tX5_coveredBy l D g hm md cv9 ly nt (ns + 1) nd np nq tq (upI sn ns net) (upI sl ns layer) (upI (upI (upI (upI bo (4 * ns) v0) ((4 * ns) + 1) v1) ((4 * ns) + 2) v2) ((4 * ns) + 3) v3) (L ++ [(net, layer, v0, v1, v2, v3)]) mf1 net layer (hmq) (by omega) (⟨by omega, by omega⟩) (⟨by omega, by omega⟩)) (cwV 2 hts gX5_shape_X5_coveredBy rfl rfl rfl (by decide +kernel) ⟨Nat.le_of_ble_eq_true rfl, Nat.le_of_ble_eq_true rfl⟩) hK hP hD hS hA [0, 1, 2, 3, 4] [] rfl rfl (by decide) (by decide) (by decide) (va_recv hK hP (ci := 5) (q0 := 0) rfl rfl) rfl rfl hl.1 (Nat.le_of_ble_eq_true rfl) dX5_shape_173 ⟨Nat.le_of_ble_eq_true rfl, Nat.le_of_ble_eq_true rfl⟩ (fun za2 u H locs hu hP hD hS => ?_)
      obtain ⟨mf2, rfl⟩ : ∃ z9, z9 = u := ⟨_, rfl⟩
      have hu : za2 = ar (L ++ [(net, layer, v0, v1, v2, v3)]) net layer := hu
      have hza2 := hu
      have hP : va_P D jcl [(hm, .inr (5, [.int (jI cv9), .int (jI ly), .int (jI nt), .ref (md 3), .int (jI (ns + 1)), .ref (md 5), .ref (md 6), .ref (md 7), .int (jI nd), .ref (md 9), .ref (md 10), .ref (md 11), .int (jI np), .ref (md 13), .ref (md 14), .ref (md 15), .ref (md 16), .ref (md 17), .ref (md 18), .ref (md 19), .ref (md 20), .int (jI nq), .ref (md 22), .ref (md 23), .ref (md 24), .ref (md 25), .ref (md 26), .int (jI tq), .ref (md 28), .ref (md 29), .ref (md 30)])), ((md 5), .inl (g.1, 200, .inl (aI (upI sn ns net)))), ((md 6), .inl (g.1, 200, .inl (aI (upI sl ns layer)))), ((md 7), .inl (g.1, 800, .inl (aI (upI (upI (upI (upI bo (4 * ns) v0) ((4 * ns) + 1) v1) ((4 * ns) + 2) v2) ((4 * ns) + 3) v3)))), ((md 29), .inl (g.2.1, 16000, .inr (.inl (aW mf2))))] H := hP
      have hD : va_D A [(hm, .inr (5, [.int (jI cv9), .int (jI ly), .int (jI nt), .ref (md 3), .int (jI (ns + 1)), .ref (md 5), .ref (md 6), .ref (md 7), .int (jI nd), .ref (md 9), .ref (md 10), .ref (md 11), .int (jI np), .ref (md 13), .ref (md 14), .ref (md 15), .ref (md 16), .ref (md 17), .ref (md 18), .ref (md 19), .ref (md 20), .int (jI nq), .ref (md 22), .ref (md 23), .ref (md 24), .ref (md 25), .ref (md 26), .int (jI tq), .ref (md 28), .ref (md 29), .ref (md 30)])), ((md 5), .inl (g.1, 200, .inl (aI (upI sn ns net)))), ((md 6), .inl (g.1, 200, .inl (aI (upI sl ns layer)))), ((md 7), .inl (g.1, 800, .inl (aI (upI (upI (upI (upI bo (4 * ns) v0) ((4 * ns) + 1) v1) ((4 * ns) + 2) v2) ((4 * ns) + 3) v3)))), ((md 29), .inl (g.2.1, 16000, .inr (.inl (aW mf2))))] := hD
      have hab2 := ar_bd (L ++ [(net, layer, v0, v1, v2, v3)]) net layer
      refine lv_iload hx hb dX5_shape_176 (lv_at hl 0 rfl) ?_
      refine jv_icmp_le (tgt := 185) hx hb ⟨by omega, by omega⟩ ⟨by omega, by omega⟩ dX5_shape_178 (by decide) (fun c178 => ?_) (fun c178 => ?_)
      · skip
        refine jv_iconst hx hb dX5_shape_185 ?_
        exact hret 0 (cv9, ns + 1, upI sn ns net, upI sl ns layer, (upI (upI (upI (upI bo (4 * ns) v0) ((4 * ns) + 1) v1) ((4 * ns) + 2) v2) ((4 * ns) + 3) v3), mf2) _ _ _ _ (by omega) (Or.inr ⟨by show cv9 = 0; omega, by omega, by omega, by omega, rfl, hmq, by omega⟩) (hP.sub [0, 1, 2, 3, 4] rfl) (hD.sub [0, 1, 2, 3, 4] (by decide) rfl) hS dX5_shape_186
      · skip
        refine jv_iconst hx hb dX5_shape_181 ?_
        refine lv_goto (tgt := 186) hx hb dX5_shape_182 (by decide) ?_
        exact hret 1 (cv9, ns + 1, upI sn ns net, upI sl ns layer, (upI (upI (upI (upI bo (4 * ns) v0) ((4 * ns) + 1) v1) ((4 * ns) + 2) v2) ((4 * ns) + 3) v3), mf2) _ _ _ _ (by omega) (Or.inr ⟨by show cv9 = 0; omega, by omega, by omega, by omega, rfl, hmq, by omega⟩) (hP.sub [0, 1, 2, 3, 4] rfl) (hD.sub [0, 1, 2, 3, 4] (by decide) rfl) hS dX5_shape_186
    · skip
      refine jv_iconst hx hb dX5_shape_69 ?_
      exact hret 0 (cv9, ns, sn, sl, bo, mf) _ _ _ _ (by omega) (Or.inl ⟨by show (cv9 = 1 ∧ ¬ ((0 ≤ net ∧ net < nt) ∧ (0 ≤ layer ∧ layer < ly))) ∨ (cv9 = 2 ∧ ((0 ≤ net ∧ net < nt) ∧ (0 ≤ layer ∧ layer < ly)) ∧ ns = 200) ∨ (cv9 = 3 ∧ ((0 ≤ net ∧ net < nt) ∧ (0 ≤ layer ∧ layer < ly)) ∧ ns < 200 ∧ ¬ ((0 ≤ v0 ∧ v0 < v2 ∧ v2 ≤ 1000) ∧ (0 ≤ v1 ∧ v1 < v3 ∧ v3 ≤ 1000))); omega, rfl, rfl, rfl, rfl⟩) (hP.sub [0, 1, 2, 3, 4] rfl) (hD.sub [0, 1, 2, 3, 4] (by decide) rfl) hS dX5_shape_70
  refine lv_aload_n hx hb dX5_shape_0 rfl (lv_at hl 0 rfl) ?_
  refine lv_aload_n hx hb dX5_shape_1 rfl (lv_at hl 0 rfl) ?_
  refine lv_iload_n hx hb dX5_shape_2 rfl (lv_at hl 1 rfl) ?_
  refine jc_Vi (As := [.int (jI net)]) (rest := [.ref hm]) (wq := [((md 5), .inl (g.1, 200, .inl (aI sn))), ((md 6), .inl (g.1, 200, .inl (aI sl))), ((md 7), .inl (g.1, 800, .inl (aI bo))), ((md 29), .inl (g.2.1, 16000, .inr (.inl (aW mf))))]) ⟨hx, hb, hml, hown, hts⟩ (tX5_isNet l D g hm md co ly nt ns nd np nq tq net (⟨hri.1, by omega, by omega⟩)) (cwV 1 hts gX5_shape_X5_isNet rfl rfl rfl (by decide +kernel) ⟨Nat.le_of_ble_eq_true rfl, Nat.le_of_ble_eq_true rfl⟩) hK hP hD hS hA [0] [1, 2, 3, 4] rfl rfl (by decide) (by decide) (by decide) (va_recv hK hP (ci := 5) (q0 := 0) rfl rfl) rfl rfl hl.1 (Nat.le_of_ble_eq_true rfl) dX5_shape_3 ⟨Nat.le_of_ble_eq_true rfl, Nat.le_of_ble_eq_true rfl⟩ (fun zn9 u H locs hu hP hD hS => ?_)
  have hu : (zn9 = 1 ∧ (0 ≤ net ∧ net < nt)) ∨ (zn9 = 0 ∧ ¬ (0 ≤ net ∧ net < nt)) := hu
  have hzn := hu
  have hP : va_P D jcl [((md 5), .inl (g.1, 200, .inl (aI sn))), ((md 6), .inl (g.1, 200, .inl (aI sl))), ((md 7), .inl (g.1, 800, .inl (aI bo))), ((md 29), .inl (g.2.1, 16000, .inr (.inl (aW mf)))), (hm, .inr (5, [.int (jI co), .int (jI ly), .int (jI nt), .ref (md 3), .int (jI ns), .ref (md 5), .ref (md 6), .ref (md 7), .int (jI nd), .ref (md 9), .ref (md 10), .ref (md 11), .int (jI np), .ref (md 13), .ref (md 14), .ref (md 15), .ref (md 16), .ref (md 17), .ref (md 18), .ref (md 19), .ref (md 20), .int (jI nq), .ref (md 22), .ref (md 23), .ref (md 24), .ref (md 25), .ref (md 26), .int (jI tq), .ref (md 28), .ref (md 29), .ref (md 30)]))] H := hP
  have hD : va_D A [((md 5), .inl (g.1, 200, .inl (aI sn))), ((md 6), .inl (g.1, 200, .inl (aI sl))), ((md 7), .inl (g.1, 800, .inl (aI bo))), ((md 29), .inl (g.2.1, 16000, .inr (.inl (aW mf)))), (hm, .inr (5, [.int (jI co), .int (jI ly), .int (jI nt), .ref (md 3), .int (jI ns), .ref (md 5), .ref (md 6), .ref (md 7), .int (jI nd), .ref (md 9), .ref (md 10), .ref (md 11), .int (jI np), .ref (md 13), .ref (md 14), .ref (md 15), .ref (md 16), .ref (md 17), .ref (md 18), .ref (md 19), .ref (md 20), .int (jI nq), .ref (md 22), .ref (md 23), .ref (md 24), .ref (md 25), .ref (md 26), .int (jI tq), .ref (md 28), .ref (md 29), .ref (md 30)]))] := hD
  refine jv_if_eq (tgt := 17) hx hb ⟨by omega, by omega⟩ dX5_shape_6 (by decide) (fun c6 => ?_) (fun c6 => ?_)
  · skip
    refine jv_iconst hx hb dX5_shape_17 ?_
    refine lv_goto (tgt := 59) hx hb dX5_shape_18 (by decide) ?_
    exact JC 1 (by omega) _ _ _ (hP.sub [4, 0, 1, 2, 3] rfl) (hD.sub [4, 0, 1, 2, 3] (by decide) rfl) hS (lv_sub hl [0, 1, 2, 3, 4, 5, 6] rfl)
  · skip
    refine lv_aload_n hx hb dX5_shape_9 rfl (lv_at hl 0 rfl) ?_
    refine lv_iload_n hx hb dX5_shape_10 rfl (lv_at hl 2 rfl) ?_
    refine jc_Vi (As := [.int (jI layer)]) (rest := [.ref hm]) (wq := [((md 5), .inl (g.1, 200, .inl (aI sn))), ((md 6), .inl (g.1, 200, .inl (aI sl))), ((md 7), .inl (g.1, 800, .inl (aI bo))), ((md 29), .inl (g.2.1, 16000, .inr (.inl (aW mf))))]) ⟨hx, hb, hml, hown, hts⟩ (tX5_isLayer l D g hm md co ly nt ns nd np nq tq layer (⟨⟨by omega, by omega⟩, by omega, by omega⟩)) (cwV 1 hts gX5_shape_X5_isLayer rfl rfl rfl (by decide +kernel) ⟨Nat.le_of_ble_eq_true rfl, Nat.le_of_ble_eq_true rfl⟩) hK hP hD hS hA [4] [0, 1, 2, 3] rfl rfl (by decide) (by decide) (by decide) (va_recv hK hP (ci := 5) (q0 := 4) rfl rfl) rfl rfl hl.1 (Nat.le_of_ble_eq_true rfl) dX5_shape_11 ⟨Nat.le_of_ble_eq_true rfl, Nat.le_of_ble_eq_true rfl⟩ (fun zl9 u H locs hu hP hD hS => ?_)
    have hu : (zl9 = 1 ∧ (0 ≤ layer ∧ layer < ly)) ∨ (zl9 = 0 ∧ ¬ (0 ≤ layer ∧ layer < ly)) := hu
    have hzl := hu
    have hP : va_P D jcl [((md 5), .inl (g.1, 200, .inl (aI sn))), ((md 6), .inl (g.1, 200, .inl (aI sl))), ((md 7), .inl (g.1, 800, .inl (aI bo))), ((md 29), .inl (g.2.1, 16000, .inr (.inl (aW mf)))), (hm, .inr (5, [.int (jI co), .int (jI ly), .int (jI nt), .ref (md 3), .int (jI ns), .ref (md 5), .ref (md 6), .ref (md 7), .int (jI nd), .ref (md 9), .ref (md 10), .ref (md 11), .int (jI np), .ref (md 13), .ref (md 14), .ref (md 15), .ref (md 16), .ref (md 17), .ref (md 18), .ref (md 19), .ref (md 20), .int (jI nq), .ref (md 22), .ref (md 23), .ref (md 24), .ref (md 25), .ref (md 26), .int (jI tq), .ref (md 28), .ref (md 29), .ref (md 30)]))] H := hP
    have hD : va_D A [((md 5), .inl (g.1, 200, .inl (aI sn))), ((md 6), .inl (g.1, 200, .inl (aI sl))), ((md 7), .inl (g.1, 800, .inl (aI bo))), ((md 29), .inl (g.2.1, 16000, .inr (.inl (aW mf)))), (hm, .inr (5, [.int (jI co), .int (jI ly), .int (jI nt), .ref (md 3), .int (jI ns), .ref (md 5), .ref (md 6), .ref (md 7), .int (jI nd), .ref (md 9), .ref (md 10), .ref (md 11), .int (jI np), .ref (md 13), .ref (md 14), .ref (md 15), .ref (md 16), .ref (md 17), .ref (md 18), .ref (md 19), .ref (md 20), .int (jI nq), .ref (md 22), .ref (md 23), .ref (md 24), .ref (md 25), .ref (md 26), .int (jI tq), .ref (md 28), .ref (md 29), .ref (md 30)]))] := hD
    refine jv_if_ne (tgt := 21) hx hb ⟨by omega, by omega⟩ dX5_shape_14 (by decide) (fun c14 => ?_) (fun c14 => ?_)
    · skip
      refine lv_aload_n hx hb dX5_shape_21 rfl (lv_at hl 0 rfl) ?_
      refine va_get (D := D) (ci := 5) (v := .int (jI ns)) (C := RX5) (T := TX5) (N := 31) hx hb hts inX5 hown hK hP 4 rfl rfl 4 (by decide) f102 (fun _ h9 => h9) rfl dX5_shape_22 ?_
      refine jv_sipush hx hb (by decide) dX5_shape_25 ?_
      refine jv_icmp_ne (tgt := 35) hx hb ⟨by omega, by omega⟩ ⟨by decide, by decide⟩ dX5_shape_28 (by decide) (fun c28 => ?_) (fun c28 => ?_)
      · skip
        refine lv_lload_n hx hb dX5_shape_35 rfl (lv_at hl 3 rfl) ?_
        refine lv_lload hx hb dX5_shape_36 (lv_at hl 5 rfl) ?_
        refine jc_Si (As := [.long (jL v0), .long (jL v2)]) (rest := [.ref hm]) (wq := [((md 5), .inl (g.1, 200, .inl (aI sn))), ((md 6), .inl (g.1, 200, .inl (aI sl))), ((md 7), .inl (g.1, 800, .inl (aI bo))), ((md 29), .inl (g.2.1, 16000, .inr (.inl (aW mf)))), (hm, .inr (5, [.int (jI co), .int (jI ly), .int (jI nt), .ref (md 3), .int (jI ns), .ref (md 5), .ref (md 6), .ref (md 7), .int (jI nd), .ref (md 9), .ref (md 10), .ref (md 11), .int (jI np), .ref (md 13), .ref (md 14), .ref (md 15), .ref (md 16), .ref (md 17), .ref (md 18), .ref (md 19), .ref (md 20), .int (jI nq), .ref (md 22), .ref (md 23), .ref (md 24), .ref (md 25), .ref (md 26), .int (jI tq), .ref (md 28), .ref (md 29), .ref (md 30)]))]) ⟨hx, hb, hml, hown, hts⟩ (tX5_isSide l D g v0 v2 (⟨hri.2.2.1, hri.2.2.2.2.1⟩)) (va_cwS 2 hts gX5_shape_X5_isSide rfl rfl rfl (by decide +kernel) ⟨Nat.le_of_ble_eq_true rfl, Nat.le_of_ble_eq_true rfl⟩) hK hP hD hS hA [] [0, 1, 2, 3, 4] rfl rfl (by decide) (by decide) (by decide) rfl rfl hl.1 (Nat.le_of_ble_eq_true rfl) dX5_shape_38 ⟨Nat.le_of_ble_eq_true rfl, Nat.le_of_ble_eq_true rfl⟩ (fun zs1 u H locs hu hP hD hS => ?_)
        have hu : (zs1 = 1 ∧ (0 ≤ v0 ∧ v0 < v2 ∧ v2 ≤ 1000)) ∨ (zs1 = 0 ∧ ¬ (0 ≤ v0 ∧ v0 < v2 ∧ v2 ≤ 1000)) := hu
        have hzs1 := hu
        have hP : va_P D jcl [((md 5), .inl (g.1, 200, .inl (aI sn))), ((md 6), .inl (g.1, 200, .inl (aI sl))), ((md 7), .inl (g.1, 800, .inl (aI bo))), ((md 29), .inl (g.2.1, 16000, .inr (.inl (aW mf)))), (hm, .inr (5, [.int (jI co), .int (jI ly), .int (jI nt), .ref (md 3), .int (jI ns), .ref (md 5), .ref (md 6), .ref (md 7), .int (jI nd), .ref (md 9), .ref (md 10), .ref (md 11), .int (jI np), .ref (md 13), .ref (md 14), .ref (md 15), .ref (md 16), .ref (md 17), .ref (md 18), .ref (md 19), .ref (md 20), .int (jI nq), .ref (md 22), .ref (md 23), .ref (md 24), .ref (md 25), .ref (md 26), .int (jI tq), .ref (md 28), .ref (md 29), .ref (md 30)]))] H := hP
        have hD : va_D A [((md 5), .inl (g.1, 200, .inl (aI sn))), ((md 6), .inl (g.1, 200, .inl (aI sl))), ((md 7), .inl (g.1, 800, .inl (aI bo))), ((md 29), .inl (g.2.1, 16000, .inr (.inl (aW mf)))), (hm, .inr (5, [.int (jI co), .int (jI ly), .int (jI nt), .ref (md 3), .int (jI ns), .ref (md 5), .ref (md 6), .ref (md 7), .int (jI nd), .ref (md 9), .ref (md 10), .ref (md 11), .int (jI np), .ref (md 13), .ref (md 14), .ref (md 15), .ref (md 16), .ref (md 17), .ref (md 18), .ref (md 19), .ref (md 20), .int (jI nq), .ref (md 22), .ref (md 23), .ref (md 24), .ref (md 25), .ref (md 26), .int (jI tq), .ref (md 28), .ref (md 29), .ref (md 30)]))] := hD
        refine jv_if_eq (tgt := 58) hx hb ⟨by omega, by omega⟩ dX5_shape_41 (by decide) (fun c41 => ?_) (fun c41 => ?_)
        · skip
          refine jv_iconst hx hb dX5_shape_58 ?_
          exact JC 3 (by omega) _ _ _ (hP.sub [4, 0, 1, 2, 3] rfl) (hD.sub [4, 0, 1, 2, 3] (by decide) rfl) hS (lv_sub hl [0, 1, 2, 3, 4, 5, 6] rfl)
        · skip
          refine lv_lload hx hb dX5_shape_44 (lv_at hl 4 rfl) ?_
          refine lv_lload hx hb dX5_shape_46 (lv_at hl 6 rfl) ?_
          refine jc_Si (As := [.long (jL v1), .long (jL v3)]) (rest := [.ref hm]) (wq := [((md 5), .inl (g.1, 200, .inl (aI sn))), ((md 6), .inl (g.1, 200, .inl (aI sl))), ((md 7), .inl (g.1, 800, .inl (aI bo))), ((md 29), .inl (g.2.1, 16000, .inr (.inl (aW mf)))), (hm, .inr (5, [.int (jI co), .int (jI ly), .int (jI nt), .ref (md 3), .int (jI ns), .ref (md 5), .ref (md 6), .ref (md 7), .int (jI nd), .ref (md 9), .ref (md 10), .ref (md 11), .int (jI np), .ref (md 13), .ref (md 14), .ref (md 15), .ref (md 16), .ref (md 17), .ref (md 18), .ref (md 19), .ref (md 20), .int (jI nq), .ref (md 22), .ref (md 23), .ref (md 24), .ref (md 25), .ref (md 26), .int (jI tq), .ref (md 28), .ref (md 29), .ref (md 30)]))]) ⟨hx, hb, hml, hown, hts⟩ (tX5_isSide l D g v1 v3 (⟨hri.2.2.2.1, hri.2.2.2.2.2⟩)) (va_cwS 2 hts gX5_shape_X5_isSide rfl rfl rfl (by decide +kernel) ⟨Nat.le_of_ble_eq_true rfl, Nat.le_of_ble_eq_true rfl⟩) hK hP hD hS hA [] [0, 1, 2, 3, 4] rfl rfl (by decide) (by decide) (by decide) rfl rfl hl.1 (Nat.le_of_ble_eq_true rfl) dX5_shape_48 ⟨Nat.le_of_ble_eq_true rfl, Nat.le_of_ble_eq_true rfl⟩ (fun zs2 u H locs hu hP hD hS => ?_)
          have hu : (zs2 = 1 ∧ (0 ≤ v1 ∧ v1 < v3 ∧ v3 ≤ 1000)) ∨ (zs2 = 0 ∧ ¬ (0 ≤ v1 ∧ v1 < v3 ∧ v3 ≤ 1000)) := hu
          have hzs2 := hu
          have hP : va_P D jcl [((md 5), .inl (g.1, 200, .inl (aI sn))), ((md 6), .inl (g.1, 200, .inl (aI sl))), ((md 7), .inl (g.1, 800, .inl (aI bo))), ((md 29), .inl (g.2.1, 16000, .inr (.inl (aW mf)))), (hm, .inr (5, [.int (jI co), .int (jI ly), .int (jI nt), .ref (md 3), .int (jI ns), .ref (md 5), .ref (md 6), .ref (md 7), .int (jI nd), .ref (md 9), .ref (md 10), .ref (md 11), .int (jI np), .ref (md 13), .ref (md 14), .ref (md 15), .ref (md 16), .ref (md 17), .ref (md 18), .ref (md 19), .ref (md 20), .int (jI nq), .ref (md 22), .ref (md 23), .ref (md 24), .ref (md 25), .ref (md 26), .int (jI tq), .ref (md 28), .ref (md 29), .ref (md 30)]))] H := hP
          have hD : va_D A [((md 5), .inl (g.1, 200, .inl (aI sn))), ((md 6), .inl (g.1, 200, .inl (aI sl))), ((md 7), .inl (g.1, 800, .inl (aI bo))), ((md 29), .inl (g.2.1, 16000, .inr (.inl (aW mf)))), (hm, .inr (5, [.int (jI co), .int (jI ly), .int (jI nt), .ref (md 3), .int (jI ns), .ref (md 5), .ref (md 6), .ref (md 7), .int (jI nd), .ref (md 9), .ref (md 10), .ref (md 11), .int (jI np), .ref (md 13), .ref (md 14), .ref (md 15), .ref (md 16), .ref (md 17), .ref (md 18), .ref (md 19), .ref (md 20), .int (jI nq), .ref (md 22), .ref (md 23), .ref (md 24), .ref (md 25), .ref (md 26), .int (jI tq), .ref (md 28), .ref (md 29), .ref (md 30)]))] := hD
          refine jv_if_eq (tgt := 58) hx hb ⟨by omega, by omega⟩ dX5_shape_51 (by decide) (fun c51 => ?_) (fun c51 => ?_)
          · skip
            refine jv_iconst hx hb dX5_shape_58 ?_
            exact JC 3 (by omega) _ _ _ (hP.sub [4, 0, 1, 2, 3] rfl) (hD.sub [4, 0, 1, 2, 3] (by decide) rfl) hS (lv_sub hl [0, 1, 2, 3, 4, 5, 6] rfl)
          · skip
            refine jv_iconst hx hb dX5_shape_54 ?_
            refine lv_goto (tgt := 59) hx hb dX5_shape_55 (by decide) ?_
            exact JC 0 (by omega) _ _ _ (hP.sub [4, 0, 1, 2, 3] rfl) (hD.sub [4, 0, 1, 2, 3] (by decide) rfl) hS (lv_sub hl [0, 1, 2, 3, 4, 5, 6] rfl)
      · skip
        refine jv_iconst hx hb dX5_shape_31 ?_
        refine lv_goto (tgt := 59) hx hb dX5_shape_32 (by decide) ?_
        exact JC 2 (by omega) _ _ _ (hP.sub [4, 0, 1, 2, 3] rfl) (hD.sub [4, 0, 1, 2, 3] (by decide) rfl) hS (lv_sub hl [0, 1, 2, 3, 4, 5, 6] rfl)
    · skip
      refine jv_iconst hx hb dX5_shape_17 ?_
      refine lv_goto (tgt := 59) hx hb dX5_shape_18 (by decide) ?_
      exact JC 1 (by omega) _ _ _ (hP.sub [4, 0, 1, 2, 3] rfl) (hD.sub [4, 0, 1, 2, 3] (by decide) rfl) hS (lv_sub hl [0, 1, 2, 3, 4, 5, 6] rfl)
