set_option maxHeartbeats 4000000 in
set_option maxRecDepth 100000 in
/-- slotsOf -/
theorem tX5_slotsOf (l : Launch) (D : va_G) (g : ClassId × ClassId × ClassId) (hm : Nat) (md : Nat → Nat) (co : Int) (ly : Int) (nt : Int) (ns : Int) (nd : Int) (np : Int) (nq : Int) (tq : Int) (sn : Int → Int) (sl : Int → Int) (bo : Int → Int) (L : List jQ) (q : jQ) (sx9 : Int) (w9 : Int) (hbo : bo (4 * sx9) = q.2.2.1 ∧ bo (4 * sx9 + 1) = q.2.2.2.1 ∧ bo (4 * sx9 + 2) = q.2.2.2.2.1 ∧ bo (4 * sx9 + 3) = q.2.2.2.2.2 ∧ okQ q) (hs9 : 0 ≤ sx9 ∧ sx9 < 200) (hw9 : 1 ≤ w9 ∧ w9 ≤ 400) : jMi l D g yX5_slotsOf wsX5_slotsOf 1 24 [.ref hm, .int (jI sx9), .int (jI w9)] [(hm, .inr (5, [.int (jI co), .int (jI ly), .int (jI nt), .ref (md 3), .int (jI ns), .ref (md 5), .ref (md 6), .ref (md 7), .int (jI nd), .ref (md 9), .ref (md 10), .ref (md 11), .int (jI np), .ref (md 13), .ref (md 14), .ref (md 15), .ref (md 16), .ref (md 17), .ref (md 18), .ref (md 19), .ref (md 20), .int (jI nq), .ref (md 22), .ref (md 23), .ref (md 24), .ref (md 25), .ref (md 26), .int (jI tq), .ref (md 28), .ref (md 29), .ref (md 30)])), ((md 7), .inl (g.1, 800, .inl (aI bo)))] (S := Unit) (fun z (_ : Unit) => z = slN q w9) (fun _ => [(hm, .inr (5, [.int (jI co), .int (jI ly), .int (jI nt), .ref (md 3), .int (jI ns), .ref (md 5), .ref (md 6), .ref (md 7), .int (jI nd), .ref (md 9), .ref (md 10), .ref (md 11), .int (jI np), .ref (md 13), .ref (md 14), .ref (md 15), .ref (md 16), .ref (md 17), .ref (md 18), .ref (md 19), .ref (md 20), .int (jI nq), .ref (md 22), .ref (md 23), .ref (md 24), .ref (md 25), .ref (md 26), .int (jI tq), .ref (md 28), .ref (md 29), .ref (md 30)])), ((md 7), .inl (g.1, 800, .inl (aI bo)))]) := by
  refine jMi_of (cc := cX5_slotsOf) (maxL := 6) (by decide) rfl (Nat.le_of_ble_eq_true rfl) ?_
  intro p e s m args below meth c Q A hx hb hml hts hown hK hA hret ls hl hP hD
  have hS : va_S A s.heap s.heap [] := va_S.rf
  have hown : s.vm.findClass RX5 = some m.cls := hown
  have f20 := hts (.fieldLink RX5 20 "AntennaFillModel" "box" "[I") (by decide +kernel)
  have inX5 : ∀ w ∈ wsX50, w ∈ wsX5_slotsOf := by decide +kernel
  have hl : lv_has ls 6 [(0, .ref hm), (1, .int (jI sx9)), (2, .int (jI w9))] := hl
  have hok := hbo.2.2.2.2
  unfold okQ at hok
  have J55 : ∀ (br : Int), (br = min (q.2.2.2.2.1 - q.2.2.1) (q.2.2.2.2.2 - q.2.2.2.1)) → ∀ (H : Heap) (locs : List Loc) (ls : Array Slot), va_P D jcl [(hm, .inr (5, [.int (jI co), .int (jI ly), .int (jI nt), .ref (md 3), .int (jI ns), .ref (md 5), .ref (md 6), .ref (md 7), .int (jI nd), .ref (md 9), .ref (md 10), .ref (md 11), .int (jI np), .ref (md 13), .ref (md 14), .ref (md 15), .ref (md 16), .ref (md 17), .ref (md 18), .ref (md 19), .ref (md 20), .int (jI nq), .ref (md 22), .ref (md 23), .ref (md 24), .ref (md 25), .ref (md 26), .int (jI tq), .ref (md 28), .ref (md 29), .ref (md 30)])), ((md 7), .inl (g.1, 800, .inl (aI bo)))] H → va_D A [(hm, .inr (5, [.int (jI co), .int (jI ly), .int (jI nt), .ref (md 3), .int (jI ns), .ref (md 5), .ref (md 6), .ref (md 7), .int (jI nd), .ref (md 9), .ref (md 10), .ref (md 11), .int (jI np), .ref (md 13), .ref (md 14), .ref (md 15), .ref (md 16), .ref (md 17), .ref (md 18), .ref (md 19), .ref (md 20), .int (jI nq), .ref (md 22), .ref (md 23), .ref (md 24), .ref (md 25), .ref (md 26), .int (jI tq), .ref (md 28), .ref (md 29), .ref (md 30)])), ((md 7), .inl (g.1, 800, .inl (aI bo)))] → va_S A s.heap H locs → lv_has ls 6 [(0, .ref hm), (1, .int (jI sx9)), (2, .int (jI w9))] → W p l e (jR 1 24) s m args below meth c H locs 0 0 Q (F0 m 55 ls [.int (jI br)]) := by
    intro br hbr H locs ls hP hD hS hl
    refine lv_istore (lv' := [(5, .int (jI br)), (0, .ref hm), (1, .int (jI sx9)), (2, .int (jI w9))]) hx hb dX5_slotsOf_55 hl (by decide) rfl (fun ls hl => ?_)
    refine lv_iload hx hb dX5_slotsOf_57 (lv_at hl 0 rfl) ?_
    refine jv_iconst hx hb dX5_slotsOf_59 ?_
    refine lv_iload_n hx hb dX5_slotsOf_60 rfl (lv_at hl 3 rfl) ?_
    refine jv_imul hx hb dX5_slotsOf_61 ?_
    refine jv_iconst hx hb dX5_slotsOf_62 ?_
    refine jv_iadd hx hb dX5_slotsOf_63 ?_
    refine jv_icmp_ge (tgt := 71) hx hb ⟨by omega, by omega⟩ ⟨by omega, by omega⟩ dX5_slotsOf_64 (by decide) (fun c64 => ?_) (fun c64 => ?_)
    · skip
      refine lv_iload hx hb dX5_slotsOf_71 (lv_at hl 0 rfl) ?_
      refine lv_iload_n hx hb dX5_slotsOf_73 rfl (lv_at hl 3 rfl) ?_
      refine jv_isub hx hb dX5_slotsOf_74 ?_
      refine lv_iload_n hx hb dX5_slotsOf_75 rfl (lv_at hl 3 rfl) ?_
      refine jv_iconst hx hb dX5_slotsOf_76 ?_
      refine jv_iadd hx hb dX5_slotsOf_77 ?_
      refine jv_idivN hx hb ⟨by omega, by omega, by omega⟩ ⟨by omega, by omega, by omega⟩ dX5_slotsOf_78 ?_
      exact hret ((br - w9) / (w9 + 2)) () _ _ _ _ (by unfold slN; rw [← hbr, if_neg (by omega)]) (hP.sub [0, 1] rfl) (hD.sub [0, 1] (by decide) rfl) hS dX5_slotsOf_79
    · skip
      refine jv_iconst hx hb dX5_slotsOf_67 ?_
      refine lv_goto (tgt := 79) hx hb dX5_slotsOf_68 (by decide) ?_
      exact hret 0 () _ _ _ _ (by unfold slN; rw [← hbr, if_pos (by omega)]) (hP.sub [0, 1] rfl) (hD.sub [0, 1] (by decide) rfl) hS dX5_slotsOf_79
  refine lv_aload_n hx hb dX5_slotsOf_0 rfl (lv_at hl 0 rfl) ?_
  refine va_get (D := D) (ci := 5) (v := .ref (md 7)) (C := RX5) (T := TX5) (N := 31) hx hb hts inX5 hown hK hP 0 rfl rfl 7 (by decide) f20 (fun _ h9 => h9) rfl dX5_slotsOf_1 ?_
  refine jv_iconst hx hb dX5_slotsOf_4 ?_
  refine lv_iload_n hx hb dX5_slotsOf_5 rfl (lv_at hl 1 rfl) ?_
  refine jv_imul hx hb dX5_slotsOf_6 ?_
  refine jv_iconst hx hb dX5_slotsOf_7 ?_
  refine jv_iadd hx hb dX5_slotsOf_8 ?_
  refine jv_iald hx hb hK hP 1 0 rfl rfl (i := ((4 * sx9) + 2)) ⟨by omega, by omega⟩ (Nat.le_of_ble_eq_true rfl) dX5_slotsOf_9 ?_
  refine lv_aload_n hx hb dX5_slotsOf_10 rfl (lv_at hl 0 rfl) ?_
  refine va_get (D := D) (ci := 5) (v := .ref (md 7)) (C := RX5) (T := TX5) (N := 31) hx hb hts inX5 hown hK hP 0 rfl rfl 7 (by decide) f20 (fun _ h9 => h9) rfl dX5_slotsOf_11 ?_
  refine jv_iconst hx hb dX5_slotsOf_14 ?_
  refine lv_iload_n hx hb dX5_slotsOf_15 rfl (lv_at hl 1 rfl) ?_
  refine jv_imul hx hb dX5_slotsOf_16 ?_
  refine jv_iald hx hb hK hP 1 0 rfl rfl (i := (4 * sx9)) ⟨by omega, by omega⟩ (Nat.le_of_ble_eq_true rfl) dX5_slotsOf_17 ?_
  refine jv_isub hx hb dX5_slotsOf_18 ?_
  refine lv_istore_n (lv' := [(3, .int (jI ((bo ((4 * sx9) + 2)) - (bo (4 * sx9))))), (0, .ref hm), (1, .int (jI sx9)), (2, .int (jI w9))]) hx hb dX5_slotsOf_19 rfl hl (by decide) rfl (fun ls hl => ?_)
  refine lv_aload_n hx hb dX5_slotsOf_20 rfl (lv_at hl 1 rfl) ?_
  refine va_get (D := D) (ci := 5) (v := .ref (md 7)) (C := RX5) (T := TX5) (N := 31) hx hb hts inX5 hown hK hP 0 rfl rfl 7 (by decide) f20 (fun _ h9 => h9) rfl dX5_slotsOf_21 ?_
  refine jv_iconst hx hb dX5_slotsOf_24 ?_
  refine lv_iload_n hx hb dX5_slotsOf_25 rfl (lv_at hl 2 rfl) ?_
  refine jv_imul hx hb dX5_slotsOf_26 ?_
  refine jv_iconst hx hb dX5_slotsOf_27 ?_
  refine jv_iadd hx hb dX5_slotsOf_28 ?_
  refine jv_iald hx hb hK hP 1 0 rfl rfl (i := ((4 * sx9) + 3)) ⟨by omega, by omega⟩ (Nat.le_of_ble_eq_true rfl) dX5_slotsOf_29 ?_
  refine lv_aload_n hx hb dX5_slotsOf_30 rfl (lv_at hl 1 rfl) ?_
  refine va_get (D := D) (ci := 5) (v := .ref (md 7)) (C := RX5) (T := TX5) (N := 31) hx hb hts inX5 hown hK hP 0 rfl rfl 7 (by decide) f20 (fun _ h9 => h9) rfl dX5_slotsOf_31 ?_
  refine jv_iconst hx hb dX5_slotsOf_34 ?_
  refine lv_iload_n hx hb dX5_slotsOf_35 rfl (lv_at hl 2 rfl) ?_
  refine jv_imul hx hb dX5_slotsOf_36 ?_
  refine jv_iconst hx hb dX5_slotsOf_37 ?_
  refine jv_iadd hx hb dX5_slotsOf_38 ?_
  refine jv_iald hx hb hK hP 1 0 rfl rfl (i := ((4 * sx9) + 1)) ⟨by omega, by omega⟩ (Nat.le_of_ble_eq_true rfl) dX5_slotsOf_39 ?_
  refine jv_isub hx hb dX5_slotsOf_40 ?_
  refine lv_istore (lv' := [(4, .int (jI ((bo ((4 * sx9) + 3)) - (bo ((4 * sx9) + 1))))), (3, .int (jI ((bo ((4 * sx9) + 2)) - (bo (4 * sx9))))), (0, .ref hm), (1, .int (jI sx9)), (2, .int (jI w9))]) hx hb dX5_slotsOf_41 hl (by decide) rfl (fun ls hl => ?_)
  refine lv_iload_n hx hb dX5_slotsOf_43 rfl (lv_at hl 1 rfl) ?_
  refine lv_iload hx hb dX5_slotsOf_44 (lv_at hl 0 rfl) ?_
  refine jv_icmp_lt (tgt := 54) hx hb ⟨by omega, by omega⟩ ⟨by omega, by omega⟩ dX5_slotsOf_46 (by decide) (fun c46 => ?_) (fun c46 => ?_)
  · skip
    refine lv_iload_n hx hb dX5_slotsOf_54 rfl (lv_at hl 1 rfl) ?_
    exact J55 ((bo ((4 * sx9) + 2)) - (bo (4 * sx9))) (by omega) _ _ _ (hP.sub [0, 1] rfl) (hD.sub [0, 1] (by decide) rfl) hS (lv_sub hl [2, 3, 4] rfl)
  · skip
    refine lv_iload hx hb dX5_slotsOf_49 (lv_at hl 0 rfl) ?_
    refine lv_goto (tgt := 55) hx hb dX5_slotsOf_51 (by decide) ?_
    exact J55 ((bo ((4 * sx9) + 3)) - (bo ((4 * sx9) + 1))) (by omega) _ _ _ (hP.sub [0, 1] rfl) (hD.sub [0, 1] (by decide) rfl) hS (lv_sub hl [2, 3, 4] rfl)

set_option maxHeartbeats 4000000 in
set_option maxRecDepth 100000 in
/-- piecesOn -/
theorem tX5_piecesOn (l : Launch) (D : va_G) (g : ClassId × ClassId × ClassId) (hm : Nat) (md : Nat → Nat) (co : Int) (ly : Int) (nt : Int) (ns : Int) (nd : Int) (np : Int) (nq : Int) (tq : Int) (rl : Int → Int) (rx : Int → Int) (ry : Int → Int) (rs : Int → Int) (LP : List jQ) (layer : Int) (hmp : mpI rl rx ry rs nq LP) (hnq : nq ≤ 1500) (hr : rI layer) : jMi l D g yX5_piecesOn wsX5_piecesOn 1 24 [.ref hm, .int (jI layer)] [(hm, .inr (5, [.int (jI co), .int (jI ly), .int (jI nt), .ref (md 3), .int (jI ns), .ref (md 5), .ref (md 6), .ref (md 7), .int (jI nd), .ref (md 9), .ref (md 10), .ref (md 11), .int (jI np), .ref (md 13), .ref (md 14), .ref (md 15), .ref (md 16), .ref (md 17), .ref (md 18), .ref (md 19), .ref (md 20), .int (jI nq), .ref (md 22), .ref (md 23), .ref (md 24), .ref (md 25), .ref (md 26), .int (jI tq), .ref (md 28), .ref (md 29), .ref (md 30)])), ((md 22), .inl (g.1, 1500, .inl (aI rl))), ((md 23), .inl (g.1, 1500, .inl (aI rx))), ((md 24), .inl (g.1, 1500, .inl (aI ry))), ((md 25), .inl (g.1, 1500, .inl (aI rs)))] (S := Unit) (fun z (_ : Unit) => z = ((LP.filter (onL layer)).length : Int)) (fun _ => [(hm, .inr (5, [.int (jI co), .int (jI ly), .int (jI nt), .ref (md 3), .int (jI ns), .ref (md 5), .ref (md 6), .ref (md 7), .int (jI nd), .ref (md 9), .ref (md 10), .ref (md 11), .int (jI np), .ref (md 13), .ref (md 14), .ref (md 15), .ref (md 16), .ref (md 17), .ref (md 18), .ref (md 19), .ref (md 20), .int (jI nq), .ref (md 22), .ref (md 23), .ref (md 24), .ref (md 25), .ref (md 26), .int (jI tq), .ref (md 28), .ref (md 29), .ref (md 30)])), ((md 22), .inl (g.1, 1500, .inl (aI rl))), ((md 23), .inl (g.1, 1500, .inl (aI rx))), ((md 24), .inl (g.1, 1500, .inl (aI ry))), ((md 25), .inl (g.1, 1500, .inl (aI rs)))]) := by
  refine jMi_of (cc := cX5_piecesOn) (maxL := 4) (by decide) rfl (Nat.le_of_ble_eq_true rfl) ?_
  intro p e s m args below meth c Q A hx hb hml hts hown hK hA hret ls hl hP hD
  have hS : va_S A s.heap s.heap [] := va_S.rf
  have hown : s.vm.findClass RX5 = some m.cls := hown
  have f56 := hts (.fieldLink RX5 56 "AntennaFillModel" "pieceLayer" "[I") (by decide +kernel)
  have f165 := hts (.fieldLink RX5 165 "AntennaFillModel" "pieces" "I") (by decide +kernel)
  have inX5 : ∀ w ∈ wsX50, w ∈ wsX5_piecesOn := by decide +kernel
  have hl : lv_has ls 4 [(0, .ref hm), (1, .int (jI layer))] := hl
  have hlen3 := hmp.1
  have L4 : ∀ (fuel : Nat) (i : Int) (sm9 : Int), (0 ≤ i ∧ i ≤ nq) → (sm9 = (((pre LP i).filter (onL layer)).length : Int)) → (0 ≤ sm9 ∧ sm9 ≤ i) → (nq + 1 - i < (fuel : Int)) → ∀ (H : Heap) (locs : List Loc) (ls : Array Slot), va_P D jcl [(hm, .inr (5, [.int (jI co), .int (jI ly), .int (jI nt), .ref (md 3), .int (jI ns), .ref (md 5), .ref (md 6), .ref (md 7), .int (jI nd), .ref (md 9), .ref (md 10), .ref (md 11), .int (jI np), .ref (md 13), .ref (md 14), .ref (md 15), .ref (md 16), .ref (md 17), .ref (md 18), .ref (md 19), .ref (md 20), .int (jI nq), .ref (md 22), .ref (md 23), .ref (md 24), .ref (md 25), .ref (md 26), .int (jI tq), .ref (md 28), .ref (md 29), .ref (md 30)])), ((md 22), .inl (g.1, 1500, .inl (aI rl))), ((md 23), .inl (g.1, 1500, .inl (aI rx))), ((md 24), .inl (g.1, 1500, .inl (aI ry))), ((md 25), .inl (g.1, 1500, .inl (aI rs)))] H → va_D A [(hm, .inr (5, [.int (jI co), .int (jI ly), .int (jI nt), .ref (md 3), .int (jI ns), .ref (md 5), .ref (md 6), .ref (md 7), .int (jI nd), .ref (md 9), .ref (md 10), .ref (md 11), .int (jI np), .ref (md 13), .ref (md 14), .ref (md 15), .ref (md 16), .ref (md 17), .ref (md 18), .ref (md 19), .ref (md 20), .int (jI nq), .ref (md 22), .ref (md 23), .ref (md 24), .ref (md 25), .ref (md 26), .int (jI tq), .ref (md 28), .ref (md 29), .ref (md 30)])), ((md 22), .inl (g.1, 1500, .inl (aI rl))), ((md 23), .inl (g.1, 1500, .inl (aI rx))), ((md 24), .inl (g.1, 1500, .inl (aI ry))), ((md 25), .inl (g.1, 1500, .inl (aI rs)))] → va_S A s.heap H locs → lv_has ls 4 [(0, .ref hm), (1, .int (jI layer)), (2, .int (jI sm9)), (3, .int (jI i))] → W p l e (jR 1 24) s m args below meth c H locs 0 0 Q (F0 m 4 ls []) := by
    intro fuel
    induction fuel with
    | zero =>
      intro i sm9 hi hs hsb hfu
      exfalso; omega
    | succ fuel ihL4 =>
      intro i sm9 hi hs hsb hfu H locs ls hP hD hS hl
      refine lv_iload_n hx hb dX5_piecesOn_4 rfl (lv_at hl 3 rfl) ?_
      refine lv_aload_n hx hb dX5_piecesOn_5 rfl (lv_at hl 0 rfl) ?_
      refine va_get (D := D) (ci := 5) (v := .int (jI nq)) (C := RX5) (T := TX5) (N := 31) hx hb hts inX5 hown hK hP 0 rfl rfl 21 (by decide) f165 (fun _ h9 => h9) rfl dX5_piecesOn_6 ?_
      refine jv_icmp_ge (tgt := 36) hx hb ⟨by omega, by omega⟩ ⟨by omega, by omega⟩ dX5_piecesOn_9 (by decide) (fun c9 => ?_) (fun c9 => ?_)
      · skip
        refine lv_iload_n hx hb dX5_piecesOn_36 rfl (lv_at hl 2 rfl) ?_
        exact hret sm9 () _ _ _ _ (by rw [hs, pre_all (L := LP) (i := i) (by omega)]) (hP.sub [0, 1, 2, 3, 4] rfl) (hD.sub [0, 1, 2, 3, 4] (by decide) rfl) hS dX5_piecesOn_37
      · skip
        obtain ⟨q, hq, e1, e2, e3, e4, e5, hok⟩ := mp_at hmp (k := i) ⟨hi.1, by omega⟩
        unfold okQ at hok
        refine lv_iload_n hx hb dX5_piecesOn_12 rfl (lv_at hl 2 rfl) ?_
        refine lv_aload_n hx hb dX5_piecesOn_13 rfl (lv_at hl 0 rfl) ?_
        refine va_get (D := D) (ci := 5) (v := .ref (md 22)) (C := RX5) (T := TX5) (N := 31) hx hb hts inX5 hown hK hP 0 rfl rfl 22 (by decide) f56 (fun _ h9 => h9) rfl dX5_piecesOn_14 ?_
        refine lv_iload_n hx hb dX5_piecesOn_17 rfl (lv_at hl 3 rfl) ?_
        refine jv_iald hx hb hK hP 1 0 rfl rfl (i := i) ⟨by omega, by omega⟩ (Nat.le_of_ble_eq_true rfl) dX5_piecesOn_18 ?_
        refine lv_iload_n hx hb dX5_piecesOn_19 rfl (lv_at hl 1 rfl) ?_
        refine jv_icmp_ne (tgt := 27) hx hb ⟨by omega, by omega⟩ ⟨by omega, by omega⟩ dX5_piecesOn_20 (by decide) (fun c20 => ?_) (fun c20 => ?_)
        · skip
          refine jv_iconst hx hb dX5_piecesOn_27 ?_
          refine jv_iadd hx hb dX5_piecesOn_28 ?_
          refine lv_istore_n (lv' := [(2, .int (jI (sm9 + 0))), (0, .ref hm), (1, .int (jI layer)), (3, .int (jI i))]) hx hb dX5_piecesOn_29 rfl hl (by decide) rfl (fun ls hl => ?_)
          refine jv_iinc (lv2 := [(3, .int (jI (i + 1))), (2, .int (jI (sm9 + 0))), (0, .ref hm), (1, .int (jI layer))]) hx hb dX5_piecesOn_30 hl (k := 3) rfl (by decide) rfl (fun ls hl => ?_)
          refine lv_goto (tgt := 4) hx hb dX5_piecesOn_33 (by decide) ?_
          exact ihL4 (i + 1) (sm9 + 0) (by omega) (by first | (rw [flt_n _ hi.1 hq (onL_f (by omega))]; omega) | (rw [flt_s _ hi.1 hq (onL_t (by omega)), List.length_append, List.length_singleton]; omega)) (by omega) (by omega) _ _ _ (hP.sub [0, 1, 2, 3, 4] rfl) (hD.sub [0, 1, 2, 3, 4] (by decide) rfl) hS (lv_sub hl [2, 3, 1, 0] rfl)
        · skip
          refine jv_iconst hx hb dX5_piecesOn_23 ?_
          refine lv_goto (tgt := 28) hx hb dX5_piecesOn_24 (by decide) ?_
          refine jv_iadd hx hb dX5_piecesOn_28 ?_
          refine lv_istore_n (lv' := [(2, .int (jI (sm9 + 1))), (0, .ref hm), (1, .int (jI layer)), (3, .int (jI i))]) hx hb dX5_piecesOn_29 rfl hl (by decide) rfl (fun ls hl => ?_)
          refine jv_iinc (lv2 := [(3, .int (jI (i + 1))), (2, .int (jI (sm9 + 1))), (0, .ref hm), (1, .int (jI layer))]) hx hb dX5_piecesOn_30 hl (k := 3) rfl (by decide) rfl (fun ls hl => ?_)
          refine lv_goto (tgt := 4) hx hb dX5_piecesOn_33 (by decide) ?_
          exact ihL4 (i + 1) (sm9 + 1) (by omega) (by first | (rw [flt_n _ hi.1 hq (onL_f (by omega))]; omega) | (rw [flt_s _ hi.1 hq (onL_t (by omega)), List.length_append, List.length_singleton]; omega)) (by omega) (by omega) _ _ _ (hP.sub [0, 1, 2, 3, 4] rfl) (hD.sub [0, 1, 2, 3, 4] (by decide) rfl) hS (lv_sub hl [2, 3, 1, 0] rfl)
  refine jv_iconst hx hb dX5_piecesOn_0 ?_
  refine lv_istore_n (lv' := [(2, .int (jI 0)), (0, .ref hm), (1, .int (jI layer))]) hx hb dX5_piecesOn_1 rfl hl (by decide) rfl (fun ls hl => ?_)
  refine jv_iconst hx hb dX5_piecesOn_2 ?_
  refine lv_istore_n (lv' := [(3, .int (jI 0)), (2, .int (jI 0)), (0, .ref hm), (1, .int (jI layer))]) hx hb dX5_piecesOn_3 rfl hl (by decide) rfl (fun ls hl => ?_)
  exact L4 ((nq + 1 - 0).toNat + 1) 0 0 (by omega) (by rw [pre_0]; rfl) (by omega) (by omega) _ _ _ (hP.sub [0, 1, 2, 3, 4] rfl) (hD.sub [0, 1, 2, 3, 4] (by decide) rfl) hS (lv_sub hl [2, 3, 1, 0] rfl)

set_option maxHeartbeats 4000000 in
set_option maxRecDepth 100000 in
/-- thrown -/
theorem tX5_thrown (l : Launch) (D : va_G) (g : ClassId × ClassId × ClassId) (hm : Nat) (md : Nat → Nat) (co : Int) (ly : Int) (nt : Int) (ns : Int) (nd : Int) (np : Int) (nq : Int) (tq : Int)  : jMi l D g yX5_thrown wsX5_thrown 1 21 [.ref hm] [(hm, .inr (5, [.int (jI co), .int (jI ly), .int (jI nt), .ref (md 3), .int (jI ns), .ref (md 5), .ref (md 6), .ref (md 7), .int (jI nd), .ref (md 9), .ref (md 10), .ref (md 11), .int (jI np), .ref (md 13), .ref (md 14), .ref (md 15), .ref (md 16), .ref (md 17), .ref (md 18), .ref (md 19), .ref (md 20), .int (jI nq), .ref (md 22), .ref (md 23), .ref (md 24), .ref (md 25), .ref (md 26), .int (jI tq), .ref (md 28), .ref (md 29), .ref (md 30)]))] (S := Unit) (fun z (_ : Unit) => z = co) (fun _ => [(hm, .inr (5, [.int (jI co), .int (jI ly), .int (jI nt), .ref (md 3), .int (jI ns), .ref (md 5), .ref (md 6), .ref (md 7), .int (jI nd), .ref (md 9), .ref (md 10), .ref (md 11), .int (jI np), .ref (md 13), .ref (md 14), .ref (md 15), .ref (md 16), .ref (md 17), .ref (md 18), .ref (md 19), .ref (md 20), .int (jI nq), .ref (md 22), .ref (md 23), .ref (md 24), .ref (md 25), .ref (md 26), .int (jI tq), .ref (md 28), .ref (md 29), .ref (md 30)]))]) := by
  refine jMi_of (cc := cX5_thrown) (maxL := 1) (by decide) rfl (Nat.le_of_ble_eq_true rfl) ?_
  intro p e s m args below meth c Q A hx hb hml hts hown hK hA hret ls hl hP hD
  have hS : va_S A s.heap s.heap [] := va_S.rf
  have hown : s.vm.findClass RX5 = some m.cls := hown
  have f84 := hts (.fieldLink RX5 84 "AntennaFillModel" "code" "I") (by decide +kernel)
  have inX5 : ∀ w ∈ wsX50, w ∈ wsX5_thrown := by decide +kernel
  have hl : lv_has ls 1 [(0, .ref hm)] := hl
  refine lv_aload_n hx hb dX5_thrown_0 rfl (lv_at hl 0 rfl) ?_
  refine va_get (D := D) (ci := 5) (v := .int (jI co)) (C := RX5) (T := TX5) (N := 31) hx hb hts inX5 hown hK hP 0 rfl rfl 0 (by decide) f84 (fun _ h9 => h9) rfl dX5_thrown_1 ?_
  exact hret co () _ _ _ _ (rfl) (hP.sub [0] rfl) (hD.sub [0] (by decide) rfl) hS dX5_thrown_4

set_option maxHeartbeats 4000000 in
set_option maxRecDepth 100000 in
/-- slot -/
theorem tX5_slot (l : Launch) (D : va_G) (g : ClassId × ClassId × ClassId) (hm : Nat) (md : Nat → Nat) (co : Int) (ly : Int) (nt : Int) (ns : Int) (nd : Int) (np : Int) (nq : Int) (tq : Int) (sn : Int → Int) (sl : Int → Int) (bo : Int → Int) (L : List jQ) (layer : Int) (v9 : Int) (hms : msI sn sl bo ns L) (hns : ns ≤ 200) (hly : 1 ≤ ly ∧ ly ≤ 64) (hri : rI layer ∧ rL v9) : jMi l D g yX5_slot wsX5_slot 3 80 [.ref hm, .int (jI layer), .long (jL v9)] [(hm, .inr (5, [.int (jI co), .int (jI ly), .int (jI nt), .ref (md 3), .int (jI ns), .ref (md 5), .ref (md 6), .ref (md 7), .int (jI nd), .ref (md 9), .ref (md 10), .ref (md 11), .int (jI np), .ref (md 13), .ref (md 14), .ref (md 15), .ref (md 16), .ref (md 17), .ref (md 18), .ref (md 19), .ref (md 20), .int (jI nq), .ref (md 22), .ref (md 23), .ref (md 24), .ref (md 25), .ref (md 26), .int (jI tq), .ref (md 28), .ref (md 29), .ref (md 30)])), ((md 5), .inl (g.1, 200, .inl (aI sn))), ((md 6), .inl (g.1, 200, .inl (aI sl))), ((md 7), .inl (g.1, 800, .inl (aI bo)))] (S := Int) (fun z u => (u = 1 ∧ ¬ (0 ≤ layer ∧ layer < ly)) ∨ (u = 2 ∧ (0 ≤ layer ∧ layer < ly) ∧ ¬ (1 ≤ v9 ∧ v9 ≤ 400)) ∨ (u = 0 ∧ (0 ≤ layer ∧ layer < ly) ∧ (1 ≤ v9 ∧ v9 ≤ 400) ∧ z = lsum (fun q => slN q v9) (L.filter (onL layer)))) (fun u => [(hm, .inr (5, [.int (jI u), .int (jI ly), .int (jI nt), .ref (md 3), .int (jI ns), .ref (md 5), .ref (md 6), .ref (md 7), .int (jI nd), .ref (md 9), .ref (md 10), .ref (md 11), .int (jI np), .ref (md 13), .ref (md 14), .ref (md 15), .ref (md 16), .ref (md 17), .ref (md 18), .ref (md 19), .ref (md 20), .int (jI nq), .ref (md 22), .ref (md 23), .ref (md 24), .ref (md 25), .ref (md 26), .int (jI tq), .ref (md 28), .ref (md 29), .ref (md 30)])), ((md 5), .inl (g.1, 200, .inl (aI sn))), ((md 6), .inl (g.1, 200, .inl (aI sl))), ((md 7), .inl (g.1, 800, .inl (aI bo)))]) := by
  refine jMi_of (cc := cX5_slot) (maxL := 6) (by decide) rfl (Nat.le_of_ble_eq_true rfl) ?_
  intro p e s m args below meth c Q A hx hb hml hts hown hK hA hret ls hl hP hD
  have hS : va_S A s.heap s.heap [] := va_S.rf
  have hown : s.vm.findClass RX5 = some m.cls := hown
  have f17 := hts (.fieldLink RX5 17 "AntennaFillModel" "shapeLayer" "[I") (by decide +kernel)
  have f84 := hts (.fieldLink RX5 84 "AntennaFillModel" "code" "I") (by decide +kernel)
  have f102 := hts (.fieldLink RX5 102 "AntennaFillModel" "shapes" "I") (by decide +kernel)
  have inX5 : ∀ w ∈ wsX50, w ∈ wsX5_slot := by decide +kernel
  have k219 := hts (.constantLong RX5 219 (400)) (by decide +kernel)
  have hl : lv_has ls 6 [(0, .ref hm), (1, .int (jI layer)), (2, .long (jL v9))] := hl
  have hlen := hms.1
  have JC : ∀ (cv9 : Int), ((cv9 = 1 ∧ ¬ (0 ≤ layer ∧ layer < ly)) ∨ (cv9 = 2 ∧ (0 ≤ layer ∧ layer < ly) ∧ ¬ (1 ≤ v9 ∧ v9 ≤ 400)) ∨ (cv9 = 0 ∧ (0 ≤ layer ∧ layer < ly) ∧ (1 ≤ v9 ∧ v9 ≤ 400))) → ∀ (H : Heap) (locs : List Loc) (ls : Array Slot), va_P D jcl [(hm, .inr (5, [.int (jI co), .int (jI ly), .int (jI nt), .ref (md 3), .int (jI ns), .ref (md 5), .ref (md 6), .ref (md 7), .int (jI nd), .ref (md 9), .ref (md 10), .ref (md 11), .int (jI np), .ref (md 13), .ref (md 14), .ref (md 15), .ref (md 16), .ref (md 17), .ref (md 18), .ref (md 19), .ref (md 20), .int (jI nq), .ref (md 22), .ref (md 23), .ref (md 24), .ref (md 25), .ref (md 26), .int (jI tq), .ref (md 28), .ref (md 29), .ref (md 30)])), ((md 5), .inl (g.1, 200, .inl (aI sn))), ((md 6), .inl (g.1, 200, .inl (aI sl))), ((md 7), .inl (g.1, 800, .inl (aI bo)))] H → va_D A [(hm, .inr (5, [.int (jI co), .int (jI ly), .int (jI nt), .ref (md 3), .int (jI ns), .ref (md 5), .ref (md 6), .ref (md 7), .int (jI nd), .ref (md 9), .ref (md 10), .ref (md 11), .int (jI np), .ref (md 13), .ref (md 14), .ref (md 15), .ref (md 16), .ref (md 17), .ref (md 18), .ref (md 19), .ref (md 20), .int (jI nq), .ref (md 22), .ref (md 23), .ref (md 24), .ref (md 25), .ref (md 26), .int (jI tq), .ref (md 28), .ref (md 29), .ref (md 30)])), ((md 5), .inl (g.1, 200, .inl (aI sn))), ((md 6), .inl (g.1, 200, .inl (aI sl))), ((md 7), .inl (g.1, 800, .inl (aI bo)))] → va_S A s.heap H locs → lv_has ls 6 [(0, .ref hm), (1, .int (jI layer)), (2, .long (jL v9))] → W p l e (jR 3 80) s m args below meth c H locs 0 0 Q (F0 m 32 ls [.int (jI cv9), .ref hm]) := by
    intro cv9 hcv H locs ls hP hD hS hl
    have LS : ∀ (fuel : Nat) (i : Int) (sm9 : Int), (0 ≤ i ∧ i ≤ ns) → (sm9 = lsum (fun q => slN q v9) ((pre L i).filter (onL layer))) → (0 ≤ sm9 ∧ sm9 ≤ 1000 * i) → (ns + 1 - i < (fuel : Int)) → ∀ (H : Heap) (locs : List Loc) (ls : Array Slot), va_P D jcl [(hm, .inr (5, [.int (jI cv9), .int (jI ly), .int (jI nt), .ref (md 3), .int (jI ns), .ref (md 5), .ref (md 6), .ref (md 7), .int (jI nd), .ref (md 9), .ref (md 10), .ref (md 11), .int (jI np), .ref (md 13), .ref (md 14), .ref (md 15), .ref (md 16), .ref (md 17), .ref (md 18), .ref (md 19), .ref (md 20), .int (jI nq), .ref (md 22), .ref (md 23), .ref (md 24), .ref (md 25), .ref (md 26), .int (jI tq), .ref (md 28), .ref (md 29), .ref (md 30)])), ((md 5), .inl (g.1, 200, .inl (aI sn))), ((md 6), .inl (g.1, 200, .inl (aI sl))), ((md 7), .inl (g.1, 800, .inl (aI bo)))] H → va_D A [(hm, .inr (5, [.int (jI cv9), .int (jI ly), .int (jI nt), .ref (md 3), .int (jI ns), .ref (md 5), .ref (md 6), .ref (md 7), .int (jI nd), .ref (md 9), .ref (md 10), .ref (md 11), .int (jI np), .ref (md 13), .ref (md 14), .ref (md 15), .ref (md 16), .ref (md 17), .ref (md 18), .ref (md 19), .ref (md 20), .int (jI nq), .ref (md 22), .ref (md 23), .ref (md 24), .ref (md 25), .ref (md 26), .int (jI tq), .ref (md 28), .ref (md 29), .ref (md 30)])), ((md 5), .inl (g.1, 200, .inl (aI sn))), ((md 6), .inl (g.1, 200, .inl (aI sl))), ((md 7), .inl (g.1, 800, .inl (aI bo)))] → va_S A s.heap H locs → lv_has ls 6 [(0, .ref hm), (1, .int (jI layer)), (2, .long (jL v9)), (4, .int (jI sm9)), (5, .int (jI i))] → W p l e (jR 3 80) s m args below meth c H locs 0 0 Q (F0 m 41 ls []) := by
      intro fuel
      induction fuel with
      | zero =>
        intro i sm9 hi hs hsb hfu
        exfalso; omega
      | succ fuel ihLS =>
        intro i sm9 hi hs hsb hfu H locs ls hP hD hS hl
        refine lv_iload hx hb dX5_slot_41 (lv_at hl 4 rfl) ?_
        refine lv_aload_n hx hb dX5_slot_43 rfl (lv_at hl 0 rfl) ?_
        refine va_get (D := D) (ci := 5) (v := .int (jI ns)) (C := RX5) (T := TX5) (N := 31) hx hb hts inX5 hown hK hP 0 rfl rfl 4 (by decide) f102 (fun _ h9 => h9) rfl dX5_slot_44 ?_
        refine jv_icmp_ge (tgt := 91) hx hb ⟨by omega, by omega⟩ ⟨by omega, by omega⟩ dX5_slot_47 (by decide) (fun c47 => ?_) (fun c47 => ?_)
        · skip
          refine lv_iload hx hb dX5_slot_91 (lv_at hl 3 rfl) ?_
          exact hret sm9 cv9 _ _ _ _ (by
            rcases hcv with q9 | q9 | q9
            · exact Or.inl q9
            · exact Or.inr (Or.inl q9)
            · exact Or.inr (Or.inr ⟨q9.1, q9.2.1, q9.2.2, by rw [hs, pre_all (L := L) (i := i) (by omega)]⟩)) (hP.sub [0, 1, 2, 3] rfl) (hD.sub [0, 1, 2, 3] (by decide) rfl) hS dX5_slot_93
        · skip
          obtain ⟨q, hq, e0, e1, e2, e3, e4, e5, hok⟩ := ms_at hms (k := i) ⟨hi.1, by omega⟩
          have hok2 := hok
          unfold okQ at hok
          refine lv_aload_n hx hb dX5_slot_50 rfl (lv_at hl 0 rfl) ?_
          refine va_get (D := D) (ci := 5) (v := .int (jI cv9)) (C := RX5) (T := TX5) (N := 31) hx hb hts inX5 hown hK hP 0 rfl rfl 0 (by decide) f84 (fun _ h9 => h9) rfl dX5_slot_51 ?_
          refine jv_if_ne (tgt := 91) hx hb ⟨by omega, by omega⟩ dX5_slot_54 (by decide) (fun c54 => ?_) (fun c54 => ?_)
          · skip
            refine lv_iload hx hb dX5_slot_91 (lv_at hl 3 rfl) ?_
            exact hret sm9 cv9 _ _ _ _ (by
              rcases hcv with q9 | q9 | q9
              · exact Or.inl q9
              · exact Or.inr (Or.inl q9)
              · exact Or.inr (Or.inr ⟨q9.1, q9.2.1, q9.2.2, by rw [hs, pre_all (L := L) (i := i) (by omega)]⟩)) (hP.sub [0, 1, 2, 3] rfl) (hD.sub [0, 1, 2, 3] (by decide) rfl) hS dX5_slot_93
          · skip
            refine lv_iload hx hb dX5_slot_57 (lv_at hl 3 rfl) ?_
            refine lv_aload_n hx hb dX5_slot_59 rfl (lv_at hl 0 rfl) ?_
            refine va_get (D := D) (ci := 5) (v := .ref (md 6)) (C := RX5) (T := TX5) (N := 31) hx hb hts inX5 hown hK hP 0 rfl rfl 6 (by decide) f17 (fun _ h9 => h9) rfl dX5_slot_60 ?_
            refine lv_iload hx hb dX5_slot_63 (lv_at hl 4 rfl) ?_
            refine jv_iald hx hb hK hP 2 0 rfl rfl (i := i) ⟨by omega, by omega⟩ (Nat.le_of_ble_eq_true rfl) dX5_slot_65 ?_
            refine lv_iload_n hx hb dX5_slot_66 rfl (lv_at hl 1 rfl) ?_
            refine jv_icmp_ne (tgt := 81) hx hb ⟨by omega, by omega⟩ ⟨by omega, by omega⟩ dX5_slot_67 (by decide) (fun c67 => ?_) (fun c67 => ?_)
            · skip
              refine jv_iconst hx hb dX5_slot_81 ?_
              refine jv_iadd hx hb dX5_slot_82 ?_
              refine lv_istore (lv' := [(4, .int (jI (sm9 + 0))), (0, .ref hm), (1, .int (jI layer)), (2, .long (jL v9)), (5, .int (jI i))]) hx hb dX5_slot_83 hl (by decide) rfl (fun ls hl => ?_)
              refine jv_iinc (lv2 := [(5, .int (jI (i + 1))), (4, .int (jI (sm9 + 0))), (0, .ref hm), (1, .int (jI layer)), (2, .long (jL v9))]) hx hb dX5_slot_85 hl (k := 4) rfl (by decide) rfl (fun ls hl => ?_)
              refine lv_goto (tgt := 41) hx hb dX5_slot_88 (by decide) ?_
              exact ihLS (i + 1) (sm9 + 0) (by omega) (by first | (rw [flt_n _ hi.1 hq (onL_f (by omega))]; omega) | (rw [flt_s _ hi.1 hq (onL_t (by omega)), lsum_app, lsum_one]; omega)) (by omega) (by omega) _ _ _ (hP.sub [0, 1, 2, 3] rfl) (hD.sub [0, 1, 2, 3] (by decide) rfl) hS (lv_sub hl [2, 3, 4, 1, 0] rfl)
            · skip
              refine lv_aload_n hx hb dX5_slot_70 rfl (lv_at hl 0 rfl) ?_
              refine lv_iload hx hb dX5_slot_71 (lv_at hl 4 rfl) ?_
              refine lv_lload_n hx hb dX5_slot_73 rfl (lv_at hl 2 rfl) ?_
              refine jv_l2i hx hb dX5_slot_74 ?_
              refine jc_Vi (As := [.int (jI i), .int (jI v9)]) (rest := [.int (jI sm9)]) (wq := [((md 5), .inl (g.1, 200, .inl (aI sn))), ((md 6), .inl (g.1, 200, .inl (aI sl)))]) ⟨hx, hb, hml, hown, hts⟩ (tX5_slotsOf l D g hm md cv9 ly nt ns nd np nq tq sn sl bo L q i v9 (⟨e2, e3, e4, e5, hok2⟩) (⟨hi.1, by omega⟩) (by omega)) (cwV 2 hts gX5_slot_X5_slotsOf rfl rfl rfl (by decide +kernel) ⟨Nat.le_of_ble_eq_true rfl, Nat.le_of_ble_eq_true rfl⟩) hK hP hD hS hA [0, 3] [1, 2] rfl rfl (by decide) (by decide) (by decide) (va_recv hK hP (ci := 5) (q0 := 0) rfl rfl) rfl rfl hl.1 (Nat.le_of_ble_eq_true rfl) dX5_slot_75 ⟨Nat.le_of_ble_eq_true rfl, Nat.le_of_ble_eq_true rfl⟩ (fun sn9 u H locs hu hP hD hS => ?_)
              have hu : sn9 = slN q v9 := hu
              have hsn := hu
              have hP : va_P D jcl [((md 5), .inl (g.1, 200, .inl (aI sn))), ((md 6), .inl (g.1, 200, .inl (aI sl))), (hm, .inr (5, [.int (jI cv9), .int (jI ly), .int (jI nt), .ref (md 3), .int (jI ns), .ref (md 5), .ref (md 6), .ref (md 7), .int (jI nd), .ref (md 9), .ref (md 10), .ref (md 11), .int (jI np), .ref (md 13), .ref (md 14), .ref (md 15), .ref (md 16), .ref (md 17), .ref (md 18), .ref (md 19), .ref (md 20), .int (jI nq), .ref (md 22), .ref (md 23), .ref (md 24), .ref (md 25), .ref (md 26), .int (jI tq), .ref (md 28), .ref (md 29), .ref (md 30)])), ((md 7), .inl (g.1, 800, .inl (aI bo)))] H := hP
              have hD : va_D A [((md 5), .inl (g.1, 200, .inl (aI sn))), ((md 6), .inl (g.1, 200, .inl (aI sl))), (hm, .inr (5, [.int (jI cv9), .int (jI ly), .int (jI nt), .ref (md 3), .int (jI ns), .ref (md 5), .ref (md 6), .ref (md 7), .int (jI nd), .ref (md 9), .ref (md 10), .ref (md 11), .int (jI np), .ref (md 13), .ref (md 14), .ref (md 15), .ref (md 16), .ref (md 17), .ref (md 18), .ref (md 19), .ref (md 20), .int (jI nq), .ref (md 22), .ref (md 23), .ref (md 24), .ref (md 25), .ref (md 26), .int (jI tq), .ref (md 28), .ref (md 29), .ref (md 30)])), ((md 7), .inl (g.1, 800, .inl (aI bo)))] := hD
              have hnb := slN_bd hok2 (show 1 ≤ v9 by omega)
              rw [← hsn] at hnb
              refine lv_goto (tgt := 82) hx hb dX5_slot_78 (by decide) ?_
              refine jv_iadd hx hb dX5_slot_82 ?_
              refine lv_istore (lv' := [(4, .int (jI (sm9 + sn9))), (0, .ref hm), (1, .int (jI layer)), (2, .long (jL v9)), (5, .int (jI i))]) hx hb dX5_slot_83 hl (by decide) rfl (fun ls hl => ?_)
              refine jv_iinc (lv2 := [(5, .int (jI (i + 1))), (4, .int (jI (sm9 + sn9))), (0, .ref hm), (1, .int (jI layer)), (2, .long (jL v9))]) hx hb dX5_slot_85 hl (k := 4) rfl (by decide) rfl (fun ls hl => ?_)
              refine lv_goto (tgt := 41) hx hb dX5_slot_88 (by decide) ?_
              exact ihLS (i + 1) (sm9 + sn9) (by omega) (by first | (rw [flt_n _ hi.1 hq (onL_f (by omega))]; omega) | (rw [flt_s _ hi.1 hq (onL_t (by omega)), lsum_app, lsum_one]; omega)) (by omega) (by omega) _ _ _ (hP.sub [2, 0, 1, 3] rfl) (hD.sub [2, 0, 1, 3] (by decide) rfl) hS (lv_sub hl [2, 3, 4, 1, 0] rfl)
    refine va_put (D := D) (ci := 5) (v := .int (jI cv9)) (ty := .int) (C := RX5) (T := TX5) (N := 31) hx hb hts inX5 tyX5 tyX5_ok nmX5 hown hK hP hD hS 0 rfl rfl 0 (by decide) f84 (fun _ h9 => h9) rfl (by decide +kernel) rfl rfl (Nat.le_of_ble_eq_true rfl) dX5_slot_32 (fun H locs hP hD hS => ?_)
    have hP : va_P D jcl [(hm, .inr (5, [.int (jI cv9), .int (jI ly), .int (jI nt), .ref (md 3), .int (jI ns), .ref (md 5), .ref (md 6), .ref (md 7), .int (jI nd), .ref (md 9), .ref (md 10), .ref (md 11), .int (jI np), .ref (md 13), .ref (md 14), .ref (md 15), .ref (md 16), .ref (md 17), .ref (md 18), .ref (md 19), .ref (md 20), .int (jI nq), .ref (md 22), .ref (md 23), .ref (md 24), .ref (md 25), .ref (md 26), .int (jI tq), .ref (md 28), .ref (md 29), .ref (md 30)])), ((md 5), .inl (g.1, 200, .inl (aI sn))), ((md 6), .inl (g.1, 200, .inl (aI sl))), ((md 7), .inl (g.1, 800, .inl (aI bo)))] H := hP
    have hD : va_D A [(hm, .inr (5, [.int (jI cv9), .int (jI ly), .int (jI nt), .ref (md 3), .int (jI ns), .ref (md 5), .ref (md 6), .ref (md 7), .int (jI nd), .ref (md 9), .ref (md 10), .ref (md 11), .int (jI np), .ref (md 13), .ref (md 14), .ref (md 15), .ref (md 16), .ref (md 17), .ref (md 18), .ref (md 19), .ref (md 20), .int (jI nq), .ref (md 22), .ref (md 23), .ref (md 24), .ref (md 25), .ref (md 26), .int (jI tq), .ref (md 28), .ref (md 29), .ref (md 30)])), ((md 5), .inl (g.1, 200, .inl (aI sn))), ((md 6), .inl (g.1, 200, .inl (aI sl))), ((md 7), .inl (g.1, 800, .inl (aI bo)))] := hD
    refine jv_iconst hx hb dX5_slot_35 ?_
    refine lv_istore (lv' := [(4, .int (jI 0)), (0, .ref hm), (1, .int (jI layer)), (2, .long (jL v9))]) hx hb dX5_slot_36 hl (by decide) rfl (fun ls hl => ?_)
    refine jv_iconst hx hb dX5_slot_38 ?_
    refine lv_istore (lv' := [(5, .int (jI 0)), (4, .int (jI 0)), (0, .ref hm), (1, .int (jI layer)), (2, .long (jL v9))]) hx hb dX5_slot_39 hl (by decide) rfl (fun ls hl => ?_)
    exact LS ((ns + 1 - 0).toNat + 1) 0 0 (by omega) (by rw [pre_0]; rfl) (by omega) (by omega) _ _ _ (hP.sub [0, 1, 2, 3] rfl) (hD.sub [0, 1, 2, 3] (by decide) rfl) hS (lv_sub hl [2, 3, 4, 1, 0] rfl)
  refine lv_aload_n hx hb dX5_slot_0 rfl (lv_at hl 0 rfl) ?_
  refine lv_aload_n hx hb dX5_slot_1 rfl (lv_at hl 0 rfl) ?_
  refine lv_iload_n hx hb dX5_slot_2 rfl (lv_at hl 1 rfl) ?_
  refine jc_Vi (As := [.int (jI layer)]) (rest := [.ref hm]) (wq := [((md 5), .inl (g.1, 200, .inl (aI sn))), ((md 6), .inl (g.1, 200, .inl (aI sl))), ((md 7), .inl (g.1, 800, .inl (aI bo)))]) ⟨hx, hb, hml, hown, hts⟩ (tX5_isLayer l D g hm md co ly nt ns nd np nq tq layer (⟨⟨by omega, by omega⟩, by omega, by omega⟩)) (cwV 1 hts gX5_slot_X5_isLayer rfl rfl rfl (by decide +kernel) ⟨Nat.le_of_ble_eq_true rfl, Nat.le_of_ble_eq_true rfl⟩) hK hP hD hS hA [0] [1, 2, 3] rfl rfl (by decide) (by decide) (by decide) (va_recv hK hP (ci := 5) (q0 := 0) rfl rfl) rfl rfl hl.1 (Nat.le_of_ble_eq_true rfl) dX5_slot_3 ⟨Nat.le_of_ble_eq_true rfl, Nat.le_of_ble_eq_true rfl⟩ (fun zl9 u H locs hu hP hD hS => ?_)
  have hu : (zl9 = 1 ∧ (0 ≤ layer ∧ layer < ly)) ∨ (zl9 = 0 ∧ ¬ (0 ≤ layer ∧ layer < ly)) := hu
  have hzl := hu
  have hP : va_P D jcl [((md 5), .inl (g.1, 200, .inl (aI sn))), ((md 6), .inl (g.1, 200, .inl (aI sl))), ((md 7), .inl (g.1, 800, .inl (aI bo))), (hm, .inr (5, [.int (jI co), .int (jI ly), .int (jI nt), .ref (md 3), .int (jI ns), .ref (md 5), .ref (md 6), .ref (md 7), .int (jI nd), .ref (md 9), .ref (md 10), .ref (md 11), .int (jI np), .ref (md 13), .ref (md 14), .ref (md 15), .ref (md 16), .ref (md 17), .ref (md 18), .ref (md 19), .ref (md 20), .int (jI nq), .ref (md 22), .ref (md 23), .ref (md 24), .ref (md 25), .ref (md 26), .int (jI tq), .ref (md 28), .ref (md 29), .ref (md 30)]))] H := hP
  have hD : va_D A [((md 5), .inl (g.1, 200, .inl (aI sn))), ((md 6), .inl (g.1, 200, .inl (aI sl))), ((md 7), .inl (g.1, 800, .inl (aI bo))), (hm, .inr (5, [.int (jI co), .int (jI ly), .int (jI nt), .ref (md 3), .int (jI ns), .ref (md 5), .ref (md 6), .ref (md 7), .int (jI nd), .ref (md 9), .ref (md 10), .ref (md 11), .int (jI np), .ref (md 13), .ref (md 14), .ref (md 15), .ref (md 16), .ref (md 17), .ref (md 18), .ref (md 19), .ref (md 20), .int (jI nq), .ref (md 22), .ref (md 23), .ref (md 24), .ref (md 25), .ref (md 26), .int (jI tq), .ref (md 28), .ref (md 29), .ref (md 30)]))] := hD
  refine jv_if_ne (tgt := 13) hx hb ⟨by omega, by omega⟩ dX5_slot_6 (by decide) (fun c6 => ?_) (fun c6 => ?_)
  · skip
    refine lv_lload_n hx hb dX5_slot_13 rfl (lv_at hl 2 rfl) ?_
    refine jv_lconst1 hx hb dX5_slot_14 ?_
    refine jv_lcmp_lt (tgt := 27) hx hb ⟨by omega, by omega⟩ ⟨by decide, by decide⟩ dX5_slot_15 dX5_slot_16 (by decide) (fun c15 => ?_) (fun c15 => ?_)
    · skip
      refine jv_iconst hx hb dX5_slot_27 ?_
      refine lv_goto (tgt := 32) hx hb dX5_slot_28 (by decide) ?_
      exact JC 2 (by omega) _ _ _ (hP.sub [3, 0, 1, 2] rfl) (hD.sub [3, 0, 1, 2] (by decide) rfl) hS (lv_sub hl [0, 1, 2] rfl)
    · skip
      refine lv_lload_n hx hb dX5_slot_19 rfl (lv_at hl 2 rfl) ?_
      refine jv_ldc2 (n := 400) hx hb (by decide) hown k219 dX5_slot_20 ?_
      refine jv_lcmp_le (tgt := 31) hx hb ⟨by omega, by omega⟩ ⟨by decide, by decide⟩ dX5_slot_23 dX5_slot_24 (by decide) (fun c23 => ?_) (fun c23 => ?_)
      · skip
        refine jv_iconst hx hb dX5_slot_31 ?_
        exact JC 0 (by omega) _ _ _ (hP.sub [3, 0, 1, 2] rfl) (hD.sub [3, 0, 1, 2] (by decide) rfl) hS (lv_sub hl [0, 1, 2] rfl)
      · skip
        refine jv_iconst hx hb dX5_slot_27 ?_
        refine lv_goto (tgt := 32) hx hb dX5_slot_28 (by decide) ?_
        exact JC 2 (by omega) _ _ _ (hP.sub [3, 0, 1, 2] rfl) (hD.sub [3, 0, 1, 2] (by decide) rfl) hS (lv_sub hl [0, 1, 2] rfl)
  · skip
    refine jv_iconst hx hb dX5_slot_9 ?_
    refine lv_goto (tgt := 32) hx hb dX5_slot_10 (by decide) ?_
    exact JC 1 (by omega) _ _ _ (hP.sub [3, 0, 1, 2] rfl) (hD.sub [3, 0, 1, 2] (by decide) rfl) hS (lv_sub hl [0, 1, 2] rfl)

set_option maxHeartbeats 4000000 in
set_option maxRecDepth 100000 in
/-- piece -/
theorem tX5_piece (l : Launch) (D : va_G) (g : ClassId × ClassId × ClassId) (hm : Nat) (md : Nat → Nat) (co : Int) (ly : Int) (nt : Int) (ns : Int) (nd : Int) (np : Int) (nq : Int) (tq : Int) (rl : Int → Int) (rx : Int → Int) (ry : Int → Int) (rs : Int → Int) (LP : List jQ) (layer : Int) (k9 : Int) (axis : Int) (hmp : mpI rl rx ry rs nq LP) (hnq : nq ≤ 1500) (hly : 1 ≤ ly ∧ ly ≤ 64) (hri : rI layer ∧ rI k9 ∧ rI axis) : jMl l D g yX5_piece wsX5_piece 2 60 [.ref hm, .int (jI layer), .int (jI k9), .int (jI axis)] [(hm, .inr (5, [.int (jI co), .int (jI ly), .int (jI nt), .ref (md 3), .int (jI ns), .ref (md 5), .ref (md 6), .ref (md 7), .int (jI nd), .ref (md 9), .ref (md 10), .ref (md 11), .int (jI np), .ref (md 13), .ref (md 14), .ref (md 15), .ref (md 16), .ref (md 17), .ref (md 18), .ref (md 19), .ref (md 20), .int (jI nq), .ref (md 22), .ref (md 23), .ref (md 24), .ref (md 25), .ref (md 26), .int (jI tq), .ref (md 28), .ref (md 29), .ref (md 30)])), ((md 22), .inl (g.1, 1500, .inl (aI rl))), ((md 23), .inl (g.1, 1500, .inl (aI rx))), ((md 24), .inl (g.1, 1500, .inl (aI ry))), ((md 25), .inl (g.1, 1500, .inl (aI rs)))] (S := Int) (fun z u => (u = 1 ∧ ¬ ((0 ≤ layer ∧ layer < ly) ∧ 0 ≤ k9 ∧ k9 < ((LP.filter (onL layer)).length : Int) ∧ 0 ≤ axis ∧ axis < 2)) ∨ (u = 0 ∧ ((0 ≤ layer ∧ layer < ly) ∧ 0 ≤ k9 ∧ k9 < ((LP.filter (onL layer)).length : Int) ∧ 0 ≤ axis ∧ axis < 2) ∧ ∃ q : jQ, (LP.filter (onL layer))[Int.toNat k9]? = some q ∧ z = jL (if axis = 0 then q.2.2.1 else q.2.2.2.1))) (fun u => [(hm, .inr (5, [.int (jI u), .int (jI ly), .int (jI nt), .ref (md 3), .int (jI ns), .ref (md 5), .ref (md 6), .ref (md 7), .int (jI nd), .ref (md 9), .ref (md 10), .ref (md 11), .int (jI np), .ref (md 13), .ref (md 14), .ref (md 15), .ref (md 16), .ref (md 17), .ref (md 18), .ref (md 19), .ref (md 20), .int (jI nq), .ref (md 22), .ref (md 23), .ref (md 24), .ref (md 25), .ref (md 26), .int (jI tq), .ref (md 28), .ref (md 29), .ref (md 30)])), ((md 22), .inl (g.1, 1500, .inl (aI rl))), ((md 23), .inl (g.1, 1500, .inl (aI rx))), ((md 24), .inl (g.1, 1500, .inl (aI ry))), ((md 25), .inl (g.1, 1500, .inl (aI rs)))]) := by
  refine jMl_of (cc := cX5_piece) (maxL := 6) (by decide) rfl (Nat.le_of_ble_eq_true rfl) ?_
  intro p e s m args below meth c Q A hx hb hml hts hown hK hA hret ls hl hP hD
  have hS : va_S A s.heap s.heap [] := va_S.rf
  have hown : s.vm.findClass RX5 = some m.cls := hown
  have f56 := hts (.fieldLink RX5 56 "AntennaFillModel" "pieceLayer" "[I") (by decide +kernel)
  have f59 := hts (.fieldLink RX5 59 "AntennaFillModel" "pieceX" "[I") (by decide +kernel)
  have f62 := hts (.fieldLink RX5 62 "AntennaFillModel" "pieceY" "[I") (by decide +kernel)
  have f84 := hts (.fieldLink RX5 84 "AntennaFillModel" "code" "I") (by decide +kernel)
  have f165 := hts (.fieldLink RX5 165 "AntennaFillModel" "pieces" "I") (by decide +kernel)
  have inX5 : ∀ w ∈ wsX50, w ∈ wsX5_piece := by decide +kernel
  have hl : lv_has ls 6 [(0, .ref hm), (1, .int (jI layer)), (2, .int (jI k9)), (3, .int (jI axis))] := hl
  have hlen3 := hmp.1
  have JC : ∀ (cv9 : Int), ((cv9 = 1 ∧ ¬ ((0 ≤ layer ∧ layer < ly) ∧ 0 ≤ k9 ∧ 0 ≤ axis ∧ axis < 2)) ∨ (cv9 = 0 ∧ ((0 ≤ layer ∧ layer < ly) ∧ 0 ≤ k9 ∧ 0 ≤ axis ∧ axis < 2))) → ∀ (H : Heap) (locs : List Loc) (ls : Array Slot), va_P D jcl [(hm, .inr (5, [.int (jI co), .int (jI ly), .int (jI nt), .ref (md 3), .int (jI ns), .ref (md 5), .ref (md 6), .ref (md 7), .int (jI nd), .ref (md 9), .ref (md 10), .ref (md 11), .int (jI np), .ref (md 13), .ref (md 14), .ref (md 15), .ref (md 16), .ref (md 17), .ref (md 18), .ref (md 19), .ref (md 20), .int (jI nq), .ref (md 22), .ref (md 23), .ref (md 24), .ref (md 25), .ref (md 26), .int (jI tq), .ref (md 28), .ref (md 29), .ref (md 30)])), ((md 22), .inl (g.1, 1500, .inl (aI rl))), ((md 23), .inl (g.1, 1500, .inl (aI rx))), ((md 24), .inl (g.1, 1500, .inl (aI ry))), ((md 25), .inl (g.1, 1500, .inl (aI rs)))] H → va_D A [(hm, .inr (5, [.int (jI co), .int (jI ly), .int (jI nt), .ref (md 3), .int (jI ns), .ref (md 5), .ref (md 6), .ref (md 7), .int (jI nd), .ref (md 9), .ref (md 10), .ref (md 11), .int (jI np), .ref (md 13), .ref (md 14), .ref (md 15), .ref (md 16), .ref (md 17), .ref (md 18), .ref (md 19), .ref (md 20), .int (jI nq), .ref (md 22), .ref (md 23), .ref (md 24), .ref (md 25), .ref (md 26), .int (jI tq), .ref (md 28), .ref (md 29), .ref (md 30)])), ((md 22), .inl (g.1, 1500, .inl (aI rl))), ((md 23), .inl (g.1, 1500, .inl (aI rx))), ((md 24), .inl (g.1, 1500, .inl (aI ry))), ((md 25), .inl (g.1, 1500, .inl (aI rs)))] → va_S A s.heap H locs → lv_has ls 6 [(0, .ref hm), (1, .int (jI layer)), (2, .int (jI k9)), (3, .int (jI axis))] → W p l e (jR 2 60) s m args below meth c H locs 0 0 Q (F0 m 27 ls [.int (jI cv9), .ref hm]) := by
    intro cv9 hcv H locs ls hP hD hS hl
    have LS : ∀ (fuel : Nat) (i : Int) (lf : Int), (0 ≤ i ∧ i ≤ nq) → (-2147483648 ≤ lf ∧ lf ≤ 2147483647 ∧ (cv9 = 0 → 0 ≤ lf ∧ k9 = (((pre LP i).filter (onL layer)).length : Int) + lf)) → (nq + 1 - i < (fuel : Int)) → ∀ (H : Heap) (locs : List Loc) (ls : Array Slot), va_P D jcl [(hm, .inr (5, [.int (jI cv9), .int (jI ly), .int (jI nt), .ref (md 3), .int (jI ns), .ref (md 5), .ref (md 6), .ref (md 7), .int (jI nd), .ref (md 9), .ref (md 10), .ref (md 11), .int (jI np), .ref (md 13), .ref (md 14), .ref (md 15), .ref (md 16), .ref (md 17), .ref (md 18), .ref (md 19), .ref (md 20), .int (jI nq), .ref (md 22), .ref (md 23), .ref (md 24), .ref (md 25), .ref (md 26), .int (jI tq), .ref (md 28), .ref (md 29), .ref (md 30)])), ((md 22), .inl (g.1, 1500, .inl (aI rl))), ((md 23), .inl (g.1, 1500, .inl (aI rx))), ((md 24), .inl (g.1, 1500, .inl (aI ry))), ((md 25), .inl (g.1, 1500, .inl (aI rs)))] H → va_D A [(hm, .inr (5, [.int (jI cv9), .int (jI ly), .int (jI nt), .ref (md 3), .int (jI ns), .ref (md 5), .ref (md 6), .ref (md 7), .int (jI nd), .ref (md 9), .ref (md 10), .ref (md 11), .int (jI np), .ref (md 13), .ref (md 14), .ref (md 15), .ref (md 16), .ref (md 17), .ref (md 18), .ref (md 19), .ref (md 20), .int (jI nq), .ref (md 22), .ref (md 23), .ref (md 24), .ref (md 25), .ref (md 26), .int (jI tq), .ref (md 28), .ref (md 29), .ref (md 30)])), ((md 22), .inl (g.1, 1500, .inl (aI rl))), ((md 23), .inl (g.1, 1500, .inl (aI rx))), ((md 24), .inl (g.1, 1500, .inl (aI ry))), ((md 25), .inl (g.1, 1500, .inl (aI rs)))] → va_S A s.heap H locs → lv_has ls 6 [(0, .ref hm), (1, .int (jI layer)), (2, .int (jI k9)), (3, .int (jI axis)), (4, .int (jI lf)), (5, .int (jI i))] → W p l e (jR 2 60) s m args below meth c H locs 0 0 Q (F0 m 36 ls []) := by
      intro fuel
      induction fuel with
      | zero =>
        intro i lf hi hlf hfu
        exfalso; omega
      | succ fuel ihLS =>
        intro i lf hi hlf hfu H locs ls hP hD hS hl
        refine lv_iload hx hb dX5_piece_36 (lv_at hl 5 rfl) ?_
        refine lv_aload_n hx hb dX5_piece_38 rfl (lv_at hl 0 rfl) ?_
        refine va_get (D := D) (ci := 5) (v := .int (jI nq)) (C := RX5) (T := TX5) (N := 31) hx hb hts inX5 hown hK hP 0 rfl rfl 21 (by decide) f165 (fun _ h9 => h9) rfl dX5_piece_39 ?_
        refine jv_icmp_ge (tgt := 101) hx hb ⟨by omega, by omega⟩ ⟨by omega, by omega⟩ dX5_piece_42 (by decide) (fun c42 => ?_) (fun c42 => ?_)
        · skip
          refine lv_aload_n hx hb dX5_piece_101 rfl (lv_at hl 0 rfl) ?_
          refine jv_iconst hx hb dX5_piece_102 ?_
          refine va_put (D := D) (ci := 5) (v := .int (jI 1)) (ty := .int) (C := RX5) (T := TX5) (N := 31) hx hb hts inX5 tyX5 tyX5_ok nmX5 hown hK hP hD hS 0 rfl rfl 0 (by decide) f84 (fun _ h9 => h9) rfl (by decide +kernel) rfl rfl (Nat.le_of_ble_eq_true rfl) dX5_piece_103 (fun H locs hP hD hS => ?_)
          have hP : va_P D jcl [(hm, .inr (5, [.int (jI 1), .int (jI ly), .int (jI nt), .ref (md 3), .int (jI ns), .ref (md 5), .ref (md 6), .ref (md 7), .int (jI nd), .ref (md 9), .ref (md 10), .ref (md 11), .int (jI np), .ref (md 13), .ref (md 14), .ref (md 15), .ref (md 16), .ref (md 17), .ref (md 18), .ref (md 19), .ref (md 20), .int (jI nq), .ref (md 22), .ref (md 23), .ref (md 24), .ref (md 25), .ref (md 26), .int (jI tq), .ref (md 28), .ref (md 29), .ref (md 30)])), ((md 22), .inl (g.1, 1500, .inl (aI rl))), ((md 23), .inl (g.1, 1500, .inl (aI rx))), ((md 24), .inl (g.1, 1500, .inl (aI ry))), ((md 25), .inl (g.1, 1500, .inl (aI rs)))] H := hP
          have hD : va_D A [(hm, .inr (5, [.int (jI 1), .int (jI ly), .int (jI nt), .ref (md 3), .int (jI ns), .ref (md 5), .ref (md 6), .ref (md 7), .int (jI nd), .ref (md 9), .ref (md 10), .ref (md 11), .int (jI np), .ref (md 13), .ref (md 14), .ref (md 15), .ref (md 16), .ref (md 17), .ref (md 18), .ref (md 19), .ref (md 20), .int (jI nq), .ref (md 22), .ref (md 23), .ref (md 24), .ref (md 25), .ref (md 26), .int (jI tq), .ref (md 28), .ref (md 29), .ref (md 30)])), ((md 22), .inl (g.1, 1500, .inl (aI rl))), ((md 23), .inl (g.1, 1500, .inl (aI rx))), ((md 24), .inl (g.1, 1500, .inl (aI ry))), ((md 25), .inl (g.1, 1500, .inl (aI rs)))] := hD
          refine jv_lconst0 hx hb dX5_piece_106 ?_
          exact hret (jL 0) 1 _ _ _ _ (by
            refine Or.inl ⟨rfl, fun q9 => ?_⟩
            have f5 := hlf.2.2
            have hall := pre_all (L := LP) (i := i)
            rcases hcv with q8 | q8
            · exact q8.2 ⟨q9.1, q9.2.1, q9.2.2.2⟩
            · have f4 := f5 q8.1
              rw [hall (by omega)] at f4
              omega) (hP.sub [0, 1, 2, 3, 4] rfl) (hD.sub [0, 1, 2, 3, 4] (by decide) rfl) hS dX5_piece_107
        · skip
          obtain ⟨q, hq, e1, e2, e3, e4, e5, hok⟩ := mp_at hmp (k := i) ⟨hi.1, by omega⟩
          have hok2 := hok
          unfold okQ at hok
          refine lv_aload_n hx hb dX5_piece_45 rfl (lv_at hl 0 rfl) ?_
          refine va_get (D := D) (ci := 5) (v := .int (jI cv9)) (C := RX5) (T := TX5) (N := 31) hx hb hts inX5 hown hK hP 0 rfl rfl 0 (by decide) f84 (fun _ h9 => h9) rfl dX5_piece_46 ?_
          refine jv_if_ne (tgt := 101) hx hb ⟨by omega, by omega⟩ dX5_piece_49 (by decide) (fun c49 => ?_) (fun c49 => ?_)
          · skip
            refine lv_aload_n hx hb dX5_piece_101 rfl (lv_at hl 0 rfl) ?_
            refine jv_iconst hx hb dX5_piece_102 ?_
            refine va_put (D := D) (ci := 5) (v := .int (jI 1)) (ty := .int) (C := RX5) (T := TX5) (N := 31) hx hb hts inX5 tyX5 tyX5_ok nmX5 hown hK hP hD hS 0 rfl rfl 0 (by decide) f84 (fun _ h9 => h9) rfl (by decide +kernel) rfl rfl (Nat.le_of_ble_eq_true rfl) dX5_piece_103 (fun H locs hP hD hS => ?_)
            have hP : va_P D jcl [(hm, .inr (5, [.int (jI 1), .int (jI ly), .int (jI nt), .ref (md 3), .int (jI ns), .ref (md 5), .ref (md 6), .ref (md 7), .int (jI nd), .ref (md 9), .ref (md 10), .ref (md 11), .int (jI np), .ref (md 13), .ref (md 14), .ref (md 15), .ref (md 16), .ref (md 17), .ref (md 18), .ref (md 19), .ref (md 20), .int (jI nq), .ref (md 22), .ref (md 23), .ref (md 24), .ref (md 25), .ref (md 26), .int (jI tq), .ref (md 28), .ref (md 29), .ref (md 30)])), ((md 22), .inl (g.1, 1500, .inl (aI rl))), ((md 23), .inl (g.1, 1500, .inl (aI rx))), ((md 24), .inl (g.1, 1500, .inl (aI ry))), ((md 25), .inl (g.1, 1500, .inl (aI rs)))] H := hP
            have hD : va_D A [(hm, .inr (5, [.int (jI 1), .int (jI ly), .int (jI nt), .ref (md 3), .int (jI ns), .ref (md 5), .ref (md 6), .ref (md 7), .int (jI nd), .ref (md 9), .ref (md 10), .ref (md 11), .int (jI np), .ref (md 13), .ref (md 14), .ref (md 15), .ref (md 16), .ref (md 17), .ref (md 18), .ref (md 19), .ref (md 20), .int (jI nq), .ref (md 22), .ref (md 23), .ref (md 24), .ref (md 25), .ref (md 26), .int (jI tq), .ref (md 28), .ref (md 29), .ref (md 30)])), ((md 22), .inl (g.1, 1500, .inl (aI rl))), ((md 23), .inl (g.1, 1500, .inl (aI rx))), ((md 24), .inl (g.1, 1500, .inl (aI ry))), ((md 25), .inl (g.1, 1500, .inl (aI rs)))] := hD
            refine jv_lconst0 hx hb dX5_piece_106 ?_
            exact hret (jL 0) 1 _ _ _ _ (by
              refine Or.inl ⟨rfl, fun q9 => ?_⟩
              have f5 := hlf.2.2
              have hall := pre_all (L := LP) (i := i)
              rcases hcv with q8 | q8
              · exact q8.2 ⟨q9.1, q9.2.1, q9.2.2.2⟩
              · have f4 := f5 q8.1
                rw [hall (by omega)] at f4
                omega) (hP.sub [0, 1, 2, 3, 4] rfl) (hD.sub [0, 1, 2, 3, 4] (by decide) rfl) hS dX5_piece_107
          · skip
            refine lv_aload_n hx hb dX5_piece_52 rfl (lv_at hl 0 rfl) ?_
            refine va_get (D := D) (ci := 5) (v := .ref (md 22)) (C := RX5) (T := TX5) (N := 31) hx hb hts inX5 hown hK hP 0 rfl rfl 22 (by decide) f56 (fun _ h9 => h9) rfl dX5_piece_53 ?_
            refine lv_iload hx hb dX5_piece_56 (lv_at hl 5 rfl) ?_
            refine jv_iald hx hb hK hP 1 0 rfl rfl (i := i) ⟨by omega, by omega⟩ (Nat.le_of_ble_eq_true rfl) dX5_piece_58 ?_
            refine lv_iload_n hx hb dX5_piece_59 rfl (lv_at hl 1 rfl) ?_
            refine jv_icmp_ne (tgt := 95) hx hb ⟨by omega, by omega⟩ ⟨by omega, by omega⟩ dX5_piece_60 (by decide) (fun c60 => ?_) (fun c60 => ?_)
            · skip
              refine jv_iinc (lv2 := [(5, .int (jI (i + 1))), (0, .ref hm), (1, .int (jI layer)), (2, .int (jI k9)), (3, .int (jI axis)), (4, .int (jI lf))]) hx hb dX5_piece_95 hl (k := 5) rfl (by decide) rfl (fun ls hl => ?_)
              refine lv_goto (tgt := 36) hx hb dX5_piece_98 (by decide) ?_
              exact ihLS (i + 1) lf (by omega) (by
                obtain ⟨f1, f2, f3⟩ := hlf
                have f4 := f3 (by omega)
                refine ⟨by omega, by omega, fun _ => ⟨by omega, ?_⟩⟩
                first
                | (rw [flt_n _ hi.1 hq (onL_f (by omega))]; omega)
                | (rw [flt_s _ hi.1 hq (onL_t (by omega)), List.length_append, List.length_singleton]; omega)) (by omega) _ _ _ (hP.sub [0, 1, 2, 3, 4] rfl) (hD.sub [0, 1, 2, 3, 4] (by decide) rfl) hS (lv_sub hl [1, 2, 3, 4, 5, 0] rfl)
            · skip
              refine lv_iload hx hb dX5_piece_63 (lv_at hl 4 rfl) ?_
              refine jv_if_ne (tgt := 92) hx hb ⟨by omega, by omega⟩ dX5_piece_65 (by decide) (fun c65 => ?_) (fun c65 => ?_)
              · skip
                refine jv_iinc (lv2 := [(4, .int (jI (lf + (-1)))), (0, .ref hm), (1, .int (jI layer)), (2, .int (jI k9)), (3, .int (jI axis)), (5, .int (jI i))]) hx hb dX5_piece_92 hl (k := 4) rfl (by decide) rfl (fun ls hl => ?_)
                refine jv_iinc (lv2 := [(5, .int (jI (i + 1))), (4, .int (jI (lf + (-1)))), (0, .ref hm), (1, .int (jI layer)), (2, .int (jI k9)), (3, .int (jI axis))]) hx hb dX5_piece_95 hl (k := 5) rfl (by decide) rfl (fun ls hl => ?_)
                refine lv_goto (tgt := 36) hx hb dX5_piece_98 (by decide) ?_
                exact ihLS (i + 1) (lf + (-1)) (by omega) (by
                  obtain ⟨f1, f2, f3⟩ := hlf
                  have f4 := f3 (by omega)
                  refine ⟨by omega, by omega, fun _ => ⟨by omega, ?_⟩⟩
                  first
                  | (rw [flt_n _ hi.1 hq (onL_f (by omega))]; omega)
                  | (rw [flt_s _ hi.1 hq (onL_t (by omega)), List.length_append, List.length_singleton]; omega)) (by omega) _ _ _ (hP.sub [0, 1, 2, 3, 4] rfl) (hD.sub [0, 1, 2, 3, 4] (by decide) rfl) hS (lv_sub hl [2, 3, 4, 5, 1, 0] rfl)
              · skip
                refine lv_iload_n hx hb dX5_piece_68 rfl (lv_at hl 3 rfl) ?_
                refine jv_if_ne (tgt := 83) hx hb ⟨by omega, by omega⟩ dX5_piece_69 (by decide) (fun c69 => ?_) (fun c69 => ?_)
                · skip
                  refine lv_aload_n hx hb dX5_piece_83 rfl (lv_at hl 0 rfl) ?_
                  refine va_get (D := D) (ci := 5) (v := .ref (md 24)) (C := RX5) (T := TX5) (N := 31) hx hb hts inX5 hown hK hP 0 rfl rfl 24 (by decide) f62 (fun _ h9 => h9) rfl dX5_piece_84 ?_
                  refine lv_iload hx hb dX5_piece_87 (lv_at hl 5 rfl) ?_
                  refine jv_iald hx hb hK hP 3 0 rfl rfl (i := i) ⟨by omega, by omega⟩ (Nat.le_of_ble_eq_true rfl) dX5_piece_89 ?_
                  refine jv_i2l hx hb ⟨by omega, by omega⟩ dX5_piece_90 ?_
                  exact hret (jL (ry i)) cv9 _ _ _ _ (by
                    have f4 := hlf.2.2 (by omega)
                    have hfa := flt_at (onL layer) hq (onL_t (by omega))
                    have hlt := (List.getElem?_eq_some_iff.mp hfa).1
                    have hpe : ((LP.take i.toNat).filter (onL layer)).length = k9.toNat := by
                      have : (pre LP i) = LP.take i.toNat := rfl
                      rw [this] at f4
                      omega
                    rw [hpe] at hfa hlt
                    refine Or.inr ⟨by omega, ⟨by omega, by omega, by omega, by omega⟩, q, hfa, ?_⟩
                    first
                    | (rw [if_pos c69, ← e2])
                    | (rw [if_neg c69, ← e3])) (hP.sub [0, 1, 2, 3, 4] rfl) (hD.sub [0, 1, 2, 3, 4] (by decide) rfl) hS dX5_piece_91
                · skip
                  refine lv_aload_n hx hb dX5_piece_72 rfl (lv_at hl 0 rfl) ?_
                  refine va_get (D := D) (ci := 5) (v := .ref (md 23)) (C := RX5) (T := TX5) (N := 31) hx hb hts inX5 hown hK hP 0 rfl rfl 23 (by decide) f59 (fun _ h9 => h9) rfl dX5_piece_73 ?_
                  refine lv_iload hx hb dX5_piece_76 (lv_at hl 5 rfl) ?_
                  refine jv_iald hx hb hK hP 2 0 rfl rfl (i := i) ⟨by omega, by omega⟩ (Nat.le_of_ble_eq_true rfl) dX5_piece_78 ?_
                  refine jv_i2l hx hb ⟨by omega, by omega⟩ dX5_piece_79 ?_
                  refine lv_goto (tgt := 91) hx hb dX5_piece_80 (by decide) ?_
                  exact hret (jL (rx i)) cv9 _ _ _ _ (by
                    have f4 := hlf.2.2 (by omega)
                    have hfa := flt_at (onL layer) hq (onL_t (by omega))
                    have hlt := (List.getElem?_eq_some_iff.mp hfa).1
                    have hpe : ((LP.take i.toNat).filter (onL layer)).length = k9.toNat := by
                      have : (pre LP i) = LP.take i.toNat := rfl
                      rw [this] at f4
                      omega
                    rw [hpe] at hfa hlt
                    refine Or.inr ⟨by omega, ⟨by omega, by omega, by omega, by omega⟩, q, hfa, ?_⟩
                    first
                    | (rw [if_pos c69, ← e2])
                    | (rw [if_neg c69, ← e3])) (hP.sub [0, 1, 2, 3, 4] rfl) (hD.sub [0, 1, 2, 3, 4] (by decide) rfl) hS dX5_piece_91
    refine va_put (D := D) (ci := 5) (v := .int (jI cv9)) (ty := .int) (C := RX5) (T := TX5) (N := 31) hx hb hts inX5 tyX5 tyX5_ok nmX5 hown hK hP hD hS 0 rfl rfl 0 (by decide) f84 (fun _ h9 => h9) rfl (by decide +kernel) rfl rfl (Nat.le_of_ble_eq_true rfl) dX5_piece_27 (fun H locs hP hD hS => ?_)
    have hP : va_P D jcl [(hm, .inr (5, [.int (jI cv9), .int (jI ly), .int (jI nt), .ref (md 3), .int (jI ns), .ref (md 5), .ref (md 6), .ref (md 7), .int (jI nd), .ref (md 9), .ref (md 10), .ref (md 11), .int (jI np), .ref (md 13), .ref (md 14), .ref (md 15), .ref (md 16), .ref (md 17), .ref (md 18), .ref (md 19), .ref (md 20), .int (jI nq), .ref (md 22), .ref (md 23), .ref (md 24), .ref (md 25), .ref (md 26), .int (jI tq), .ref (md 28), .ref (md 29), .ref (md 30)])), ((md 22), .inl (g.1, 1500, .inl (aI rl))), ((md 23), .inl (g.1, 1500, .inl (aI rx))), ((md 24), .inl (g.1, 1500, .inl (aI ry))), ((md 25), .inl (g.1, 1500, .inl (aI rs)))] H := hP
    have hD : va_D A [(hm, .inr (5, [.int (jI cv9), .int (jI ly), .int (jI nt), .ref (md 3), .int (jI ns), .ref (md 5), .ref (md 6), .ref (md 7), .int (jI nd), .ref (md 9), .ref (md 10), .ref (md 11), .int (jI np), .ref (md 13), .ref (md 14), .ref (md 15), .ref (md 16), .ref (md 17), .ref (md 18), .ref (md 19), .ref (md 20), .int (jI nq), .ref (md 22), .ref (md 23), .ref (md 24), .ref (md 25), .ref (md 26), .int (jI tq), .ref (md 28), .ref (md 29), .ref (md 30)])), ((md 22), .inl (g.1, 1500, .inl (aI rl))), ((md 23), .inl (g.1, 1500, .inl (aI rx))), ((md 24), .inl (g.1, 1500, .inl (aI ry))), ((md 25), .inl (g.1, 1500, .inl (aI rs)))] := hD
    refine lv_iload_n hx hb dX5_piece_30 rfl (lv_at hl 2 rfl) ?_
    refine lv_istore (lv' := [(4, .int (jI k9)), (0, .ref hm), (1, .int (jI layer)), (2, .int (jI k9)), (3, .int (jI axis))]) hx hb dX5_piece_31 hl (by decide) rfl (fun ls hl => ?_)
    refine jv_iconst hx hb dX5_piece_33 ?_
    refine lv_istore (lv' := [(5, .int (jI 0)), (4, .int (jI k9)), (0, .ref hm), (1, .int (jI layer)), (2, .int (jI k9)), (3, .int (jI axis))]) hx hb dX5_piece_34 hl (by decide) rfl (fun ls hl => ?_)
    exact LS ((nq + 1 - 0).toNat + 1) 0 k9 (by omega) (⟨by omega, by omega, fun _ => ⟨by omega, by rw [pre_0]; show k9 = (0 : Nat) + k9; omega⟩⟩) (by omega) _ _ _ (hP.sub [0, 1, 2, 3, 4] rfl) (hD.sub [0, 1, 2, 3, 4] (by decide) rfl) hS (lv_sub hl [2, 3, 4, 5, 1, 0] rfl)
  refine lv_aload_n hx hb dX5_piece_0 rfl (lv_at hl 0 rfl) ?_
  refine lv_aload_n hx hb dX5_piece_1 rfl (lv_at hl 0 rfl) ?_
  refine lv_iload_n hx hb dX5_piece_2 rfl (lv_at hl 1 rfl) ?_
  refine jc_Vi (As := [.int (jI layer)]) (rest := [.ref hm]) (wq := [((md 22), .inl (g.1, 1500, .inl (aI rl))), ((md 23), .inl (g.1, 1500, .inl (aI rx))), ((md 24), .inl (g.1, 1500, .inl (aI ry))), ((md 25), .inl (g.1, 1500, .inl (aI rs)))]) ⟨hx, hb, hml, hown, hts⟩ (tX5_isLayer l D g hm md co ly nt ns nd np nq tq layer (⟨⟨by omega, by omega⟩, by omega, by omega⟩)) (cwV 1 hts gX5_piece_X5_isLayer rfl rfl rfl (by decide +kernel) ⟨Nat.le_of_ble_eq_true rfl, Nat.le_of_ble_eq_true rfl⟩) hK hP hD hS hA [0] [1, 2, 3, 4] rfl rfl (by decide) (by decide) (by decide) (va_recv hK hP (ci := 5) (q0 := 0) rfl rfl) rfl rfl hl.1 (Nat.le_of_ble_eq_true rfl) dX5_piece_3 ⟨Nat.le_of_ble_eq_true rfl, Nat.le_of_ble_eq_true rfl⟩ (fun zl9 u H locs hu hP hD hS => ?_)
  have hu : (zl9 = 1 ∧ (0 ≤ layer ∧ layer < ly)) ∨ (zl9 = 0 ∧ ¬ (0 ≤ layer ∧ layer < ly)) := hu
  have hzl := hu
  have hP : va_P D jcl [((md 22), .inl (g.1, 1500, .inl (aI rl))), ((md 23), .inl (g.1, 1500, .inl (aI rx))), ((md 24), .inl (g.1, 1500, .inl (aI ry))), ((md 25), .inl (g.1, 1500, .inl (aI rs))), (hm, .inr (5, [.int (jI co), .int (jI ly), .int (jI nt), .ref (md 3), .int (jI ns), .ref (md 5), .ref (md 6), .ref (md 7), .int (jI nd), .ref (md 9), .ref (md 10), .ref (md 11), .int (jI np), .ref (md 13), .ref (md 14), .ref (md 15), .ref (md 16), .ref (md 17), .ref (md 18), .ref (md 19), .ref (md 20), .int (jI nq), .ref (md 22), .ref (md 23), .ref (md 24), .ref (md 25), .ref (md 26), .int (jI tq), .ref (md 28), .ref (md 29), .ref (md 30)]))] H := hP
  have hD : va_D A [((md 22), .inl (g.1, 1500, .inl (aI rl))), ((md 23), .inl (g.1, 1500, .inl (aI rx))), ((md 24), .inl (g.1, 1500, .inl (aI ry))), ((md 25), .inl (g.1, 1500, .inl (aI rs))), (hm, .inr (5, [.int (jI co), .int (jI ly), .int (jI nt), .ref (md 3), .int (jI ns), .ref (md 5), .ref (md 6), .ref (md 7), .int (jI nd), .ref (md 9), .ref (md 10), .ref (md 11), .int (jI np), .ref (md 13), .ref (md 14), .ref (md 15), .ref (md 16), .ref (md 17), .ref (md 18), .ref (md 19), .ref (md 20), .int (jI nq), .ref (md 22), .ref (md 23), .ref (md 24), .ref (md 25), .ref (md 26), .int (jI tq), .ref (md 28), .ref (md 29), .ref (md 30)]))] := hD
  refine jv_if_eq (tgt := 22) hx hb ⟨by omega, by omega⟩ dX5_piece_6 (by decide) (fun c6 => ?_) (fun c6 => ?_)
  · skip
    refine jv_iconst hx hb dX5_piece_22 ?_
    refine lv_goto (tgt := 27) hx hb dX5_piece_23 (by decide) ?_
    exact JC 1 (by omega) _ _ _ (hP.sub [4, 0, 1, 2, 3] rfl) (hD.sub [4, 0, 1, 2, 3] (by decide) rfl) hS (lv_sub hl [0, 1, 2, 3] rfl)
  · skip
    refine lv_iload_n hx hb dX5_piece_9 rfl (lv_at hl 3 rfl) ?_
    refine jv_if_lt (tgt := 22) hx hb ⟨by omega, by omega⟩ dX5_piece_10 (by decide) (fun c10 => ?_) (fun c10 => ?_)
    · skip
      refine jv_iconst hx hb dX5_piece_22 ?_
      refine lv_goto (tgt := 27) hx hb dX5_piece_23 (by decide) ?_
      exact JC 1 (by omega) _ _ _ (hP.sub [4, 0, 1, 2, 3] rfl) (hD.sub [4, 0, 1, 2, 3] (by decide) rfl) hS (lv_sub hl [0, 1, 2, 3] rfl)
    · skip
      refine lv_iload_n hx hb dX5_piece_13 rfl (lv_at hl 3 rfl) ?_
      refine jv_iconst hx hb dX5_piece_14 ?_
      refine jv_icmp_gt (tgt := 22) hx hb ⟨by omega, by omega⟩ ⟨by decide, by decide⟩ dX5_piece_15 (by decide) (fun c15 => ?_) (fun c15 => ?_)
      · skip
        refine jv_iconst hx hb dX5_piece_22 ?_
        refine lv_goto (tgt := 27) hx hb dX5_piece_23 (by decide) ?_
        exact JC 1 (by omega) _ _ _ (hP.sub [4, 0, 1, 2, 3] rfl) (hD.sub [4, 0, 1, 2, 3] (by decide) rfl) hS (lv_sub hl [0, 1, 2, 3] rfl)
      · skip
        refine lv_iload_n hx hb dX5_piece_18 rfl (lv_at hl 2 rfl) ?_
        refine jv_if_ge (tgt := 26) hx hb ⟨by omega, by omega⟩ dX5_piece_19 (by decide) (fun c19 => ?_) (fun c19 => ?_)
        · skip
          refine jv_iconst hx hb dX5_piece_26 ?_
          exact JC 0 (by omega) _ _ _ (hP.sub [4, 0, 1, 2, 3] rfl) (hD.sub [4, 0, 1, 2, 3] (by decide) rfl) hS (lv_sub hl [0, 1, 2, 3] rfl)
        · skip
          refine jv_iconst hx hb dX5_piece_22 ?_
          refine lv_goto (tgt := 27) hx hb dX5_piece_23 (by decide) ?_
          exact JC 1 (by omega) _ _ _ (hP.sub [4, 0, 1, 2, 3] rfl) (hD.sub [4, 0, 1, 2, 3] (by decide) rfl) hS (lv_sub hl [0, 1, 2, 3] rfl)
