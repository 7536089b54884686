set_option maxHeartbeats 4000000 in
set_option maxRecDepth 100000 in
/-- dropPieces -/
theorem tX5_dropPieces (l : Launch) (D : va_G) (g : ClassId × ClassId × ClassId) (hm : Nat) (md : Nat → Nat) (co : Int) (ly : Int) (nt : Int) (ns : Int) (nd : Int) (np : Int) (nq : Int) (tq : Int) (rl : Int → Int) (rx : Int → Int) (ry : Int → Int) (rs : Int → Int) (LP : List jQ) (rt : Int → Int) (layer : Int) (hmp : mpI rl rx ry rs nq LP) (hnq : nq ≤ 1500) (hr : rI layer) (hrT : ∀ k : Int, 0 ≤ k → k < nq → rI (rt k)) : jMv l D g yX5_dropPieces wsX5_dropPieces 1 24 [.ref hm, .int (jI layer)] [(hm, .inr (5, [.int (jI co), .int (jI ly), .int (jI nt), .ref (md 3), .int (jI ns), .ref (md 5), .ref (md 6), .ref (md 7), .int (jI nd), .ref (md 9), .ref (md 10), .ref (md 11), .int (jI np), .ref (md 13), .ref (md 14), .ref (md 15), .ref (md 16), .ref (md 17), .ref (md 18), .ref (md 19), .ref (md 20), .int (jI nq), .ref (md 22), .ref (md 23), .ref (md 24), .ref (md 25), .ref (md 26), .int (jI tq), .ref (md 28), .ref (md 29), .ref (md 30)])), ((md 22), .inl (g.1, 1500, .inl (aI rl))), ((md 23), .inl (g.1, 1500, .inl (aI rx))), ((md 24), .inl (g.1, 1500, .inl (aI ry))), ((md 25), .inl (g.1, 1500, .inl (aI rs))), ((md 26), .inl (g.1, 1500, .inl (aI rt)))] (S := (Int → Int) × (Int → Int) × (Int → Int) × (Int → Int) × (Int → Int) × Int) (fun u => mpI u.1 u.2.1 u.2.2.1 u.2.2.2.1 u.2.2.2.2.2 (LP.filter (offL layer)) ∧ u.2.2.2.2.2 ≤ 1500 ∧ (∀ k : Int, 0 ≤ k → k < u.2.2.2.2.2 → rI (u.2.2.2.2.1 k))) (fun u => [(hm, .inr (5, [.int (jI co), .int (jI ly), .int (jI nt), .ref (md 3), .int (jI ns), .ref (md 5), .ref (md 6), .ref (md 7), .int (jI nd), .ref (md 9), .ref (md 10), .ref (md 11), .int (jI np), .ref (md 13), .ref (md 14), .ref (md 15), .ref (md 16), .ref (md 17), .ref (md 18), .ref (md 19), .ref (md 20), .int (jI u.2.2.2.2.2), .ref (md 22), .ref (md 23), .ref (md 24), .ref (md 25), .ref (md 26), .int (jI tq), .ref (md 28), .ref (md 29), .ref (md 30)])), ((md 22), .inl (g.1, 1500, .inl (aI u.1))), ((md 23), .inl (g.1, 1500, .inl (aI u.2.1))), ((md 24), .inl (g.1, 1500, .inl (aI u.2.2.1))), ((md 25), .inl (g.1, 1500, .inl (aI u.2.2.2.1))), ((md 26), .inl (g.1, 1500, .inl (aI u.2.2.2.2.1)))]) := by
  refine jMv_of (cc := cX5_dropPieces) (maxL := 4) (by decide) rfl (Nat.le_of_ble_eq_true rfl) ?_
  intro p e s m args below meth c Q A hx hb hml hts hown hK hA hret ls hl hP hD
  have hS : va_S A s.heap s.heap [] := va_S.rf
  have hown : s.vm.findClass RX5 = some m.cls := hown
  have f56 := hts (.fieldLink RX5 56 "AntennaFillModel" "pieceLayer" "[I") (by decide +kernel)
  have f59 := hts (.fieldLink RX5 59 "AntennaFillModel" "pieceX" "[I") (by decide +kernel)
  have f62 := hts (.fieldLink RX5 62 "AntennaFillModel" "pieceY" "[I") (by decide +kernel)
  have f65 := hts (.fieldLink RX5 65 "AntennaFillModel" "pieceSize" "[I") (by decide +kernel)
  have f68 := hts (.fieldLink RX5 68 "AntennaFillModel" "pieceTile" "[I") (by decide +kernel)
  have f165 := hts (.fieldLink RX5 165 "AntennaFillModel" "pieces" "I") (by decide +kernel)
  have inX5 : ∀ w ∈ wsX50, w ∈ wsX5_dropPieces := by decide +kernel
  have hl : lv_has ls 4 [(0, .ref hm), (1, .int (jI layer))] := hl
  have hlen3 := hmp.1
  have L4 : ∀ (fuel : Nat) (i : Int) (kp : Int) (rl' : Int → Int) (rx' : Int → Int) (ry' : Int → Int) (rs' : Int → Int) (rt' : Int → Int), (0 ≤ i ∧ i ≤ nq ∧ 0 ≤ kp ∧ kp ≤ i) → (mpI rl' rx' ry' rs' kp ((pre LP i).filter (offL layer))) → (∀ k : Int, 0 ≤ k → k < nq → rI (rt' k)) → (∀ k : Int, i ≤ k → rl' k = rl k ∧ rx' k = rx k ∧ ry' k = ry k ∧ rs' k = rs k) → (nq + 1 - i < (fuel : Int)) → ∀ (H : Heap) (locs : List Loc) (ls : Array Slot), va_P D jcl [(hm, .inr (5, [.int (jI co), .int (jI ly), .int (jI nt), .ref (md 3), .int (jI ns), .ref (md 5), .ref (md 6), .ref (md 7), .int (jI nd), .ref (md 9), .ref (md 10), .ref (md 11), .int (jI np), .ref (md 13), .ref (md 14), .ref (md 15), .ref (md 16), .ref (md 17), .ref (md 18), .ref (md 19), .ref (md 20), .int (jI nq), .ref (md 22), .ref (md 23), .ref (md 24), .ref (md 25), .ref (md 26), .int (jI tq), .ref (md 28), .ref (md 29), .ref (md 30)])), ((md 22), .inl (g.1, 1500, .inl (aI rl'))), ((md 23), .inl (g.1, 1500, .inl (aI rx'))), ((md 24), .inl (g.1, 1500, .inl (aI ry'))), ((md 25), .inl (g.1, 1500, .inl (aI rs'))), ((md 26), .inl (g.1, 1500, .inl (aI rt')))] H → va_D A [(hm, .inr (5, [.int (jI co), .int (jI ly), .int (jI nt), .ref (md 3), .int (jI ns), .ref (md 5), .ref (md 6), .ref (md 7), .int (jI nd), .ref (md 9), .ref (md 10), .ref (md 11), .int (jI np), .ref (md 13), .ref (md 14), .ref (md 15), .ref (md 16), .ref (md 17), .ref (md 18), .ref (md 19), .ref (md 20), .int (jI nq), .ref (md 22), .ref (md 23), .ref (md 24), .ref (md 25), .ref (md 26), .int (jI tq), .ref (md 28), .ref (md 29), .ref (md 30)])), ((md 22), .inl (g.1, 1500, .inl (aI rl'))), ((md 23), .inl (g.1, 1500, .inl (aI rx'))), ((md 24), .inl (g.1, 1500, .inl (aI ry'))), ((md 25), .inl (g.1, 1500, .inl (aI rs'))), ((md 26), .inl (g.1, 1500, .inl (aI rt')))] → va_S A s.heap H locs → lv_has ls 4 [(0, .ref hm), (1, .int (jI layer)), (2, .int (jI kp)), (3, .int (jI i))] → W p l e (jR 1 24) s m args below meth c H locs 0 0 Q (F0 m 4 ls []) := by
    intro fuel
    induction fuel with
    | zero =>
      intro i kp rl' rx' ry' rs' rt' hi h1 hr9 hk hfu
      exfalso; omega
    | succ fuel ihL4 =>
      intro i kp rl' rx' ry' rs' rt' hi h1 hr9 hk hfu H locs ls hP hD hS hl
      refine lv_iload_n hx hb dX5_dropPieces_4 rfl (lv_at hl 3 rfl) ?_
      refine lv_aload_n hx hb dX5_dropPieces_5 rfl (lv_at hl 0 rfl) ?_
      refine va_get (D := D) (ci := 5) (v := .int (jI nq)) (C := RX5) (T := TX5) (N := 31) hx hb hts inX5 hown hK hP 0 rfl rfl 21 (by decide) f165 (fun _ h9 => h9) rfl dX5_dropPieces_6 ?_
      refine jv_icmp_ge (tgt := 91) hx hb ⟨by omega, by omega⟩ ⟨by omega, by omega⟩ dX5_dropPieces_9 (by decide) (fun c9 => ?_) (fun c9 => ?_)
      · skip
        refine lv_aload_n hx hb dX5_dropPieces_91 rfl (lv_at hl 0 rfl) ?_
        refine lv_iload_n hx hb dX5_dropPieces_92 rfl (lv_at hl 2 rfl) ?_
        refine va_put (D := D) (ci := 5) (v := .int (jI kp)) (ty := .int) (C := RX5) (T := TX5) (N := 31) hx hb hts inX5 tyX5 tyX5_ok nmX5 hown hK hP hD hS 0 rfl rfl 21 (by decide) f165 (fun _ h9 => h9) rfl (by decide +kernel) rfl rfl (Nat.le_of_ble_eq_true rfl) dX5_dropPieces_93 (fun H locs hP hD hS => ?_)
        have hP : va_P D jcl [(hm, .inr (5, [.int (jI co), .int (jI ly), .int (jI nt), .ref (md 3), .int (jI ns), .ref (md 5), .ref (md 6), .ref (md 7), .int (jI nd), .ref (md 9), .ref (md 10), .ref (md 11), .int (jI np), .ref (md 13), .ref (md 14), .ref (md 15), .ref (md 16), .ref (md 17), .ref (md 18), .ref (md 19), .ref (md 20), .int (jI kp), .ref (md 22), .ref (md 23), .ref (md 24), .ref (md 25), .ref (md 26), .int (jI tq), .ref (md 28), .ref (md 29), .ref (md 30)])), ((md 22), .inl (g.1, 1500, .inl (aI rl'))), ((md 23), .inl (g.1, 1500, .inl (aI rx'))), ((md 24), .inl (g.1, 1500, .inl (aI ry'))), ((md 25), .inl (g.1, 1500, .inl (aI rs'))), ((md 26), .inl (g.1, 1500, .inl (aI rt')))] H := hP
        have hD : va_D A [(hm, .inr (5, [.int (jI co), .int (jI ly), .int (jI nt), .ref (md 3), .int (jI ns), .ref (md 5), .ref (md 6), .ref (md 7), .int (jI nd), .ref (md 9), .ref (md 10), .ref (md 11), .int (jI np), .ref (md 13), .ref (md 14), .ref (md 15), .ref (md 16), .ref (md 17), .ref (md 18), .ref (md 19), .ref (md 20), .int (jI kp), .ref (md 22), .ref (md 23), .ref (md 24), .ref (md 25), .ref (md 26), .int (jI tq), .ref (md 28), .ref (md 29), .ref (md 30)])), ((md 22), .inl (g.1, 1500, .inl (aI rl'))), ((md 23), .inl (g.1, 1500, .inl (aI rx'))), ((md 24), .inl (g.1, 1500, .inl (aI ry'))), ((md 25), .inl (g.1, 1500, .inl (aI rs'))), ((md 26), .inl (g.1, 1500, .inl (aI rt')))] := hD
        exact hret  (rl', rx', ry', rs', rt', kp) _ _ _ _ (⟨by rw [← pre_all (L := LP) (i := i) (by omega)]; exact h1, by show kp ≤ 1500; omega, fun k q1 q2 => hr9 k q1 (by have q3 : k < kp := q2; omega)⟩) (hP.sub [0, 1, 2, 3, 4, 5] rfl) (hD.sub [0, 1, 2, 3, 4, 5] (by decide) rfl) hS dX5_dropPieces_96
      · skip
        obtain ⟨q, hq, e1, e2, e3, e4, e5, hok⟩ := mp_at hmp (k := i) ⟨hi.1, by omega⟩
        have hok2 := hok
        unfold okQ at hok
        obtain ⟨k0, k1, k2, k3⟩ := hk i (Int.le_refl i)
        refine lv_aload_n hx hb dX5_dropPieces_12 rfl (lv_at hl 0 rfl) ?_
        refine va_get (D := D) (ci := 5) (v := .ref (md 22)) (C := RX5) (T := TX5) (N := 31) hx hb hts inX5 hown hK hP 0 rfl rfl 22 (by decide) f56 (fun _ h9 => h9) rfl dX5_dropPieces_13 ?_
        refine lv_iload_n hx hb dX5_dropPieces_16 rfl (lv_at hl 3 rfl) ?_
        refine jv_iald hx hb hK hP 1 0 rfl rfl (i := i) ⟨by omega, by omega⟩ (Nat.le_of_ble_eq_true rfl) dX5_dropPieces_17 ?_
        refine lv_iload_n hx hb dX5_dropPieces_18 rfl (lv_at hl 1 rfl) ?_
        refine jv_icmp_eq (tgt := 85) hx hb ⟨by omega, by omega⟩ ⟨by omega, by omega⟩ dX5_dropPieces_19 (by decide) (fun c19 => ?_) (fun c19 => ?_)
        · skip
          refine jv_iinc (lv2 := [(3, .int (jI (i + 1))), (0, .ref hm), (1, .int (jI layer)), (2, .int (jI kp))]) hx hb dX5_dropPieces_85 hl (k := 3) rfl (by decide) rfl (fun ls hl => ?_)
          refine lv_goto (tgt := 4) hx hb dX5_dropPieces_88 (by decide) ?_
          exact ihL4 (i + 1) kp rl' rx' ry' rs' rt' (by omega) (by
            first
            | (rw [flt_n _ hi.1 hq (offL_f (by omega))]; exact h1)
            | (rw [flt_s _ hi.1 hq (offL_t (by omega))]; exact mpI_s h1 (by omega) (by omega) (by omega) (by omega) (by omega) hok2)) (fun k q1 q2 => by
            first
            | exact hr9 k q1 q2
            | (by_cases q3 : k = kp
               · rw [q3, upI_eq]; exact hr9 i hi.1 (by omega)
               · rw [upI_ne _ _ q3]; exact hr9 k q1 q2)) (fun k h => by first | exact hk k (by omega) | exact kp4 (by omega) (hk k (by omega))) (by omega) _ _ _ (hP.sub [0, 1, 2, 3, 4, 5] rfl) (hD.sub [0, 1, 2, 3, 4, 5] (by decide) rfl) hS (lv_sub hl [1, 2, 3, 0] rfl)
        · skip
          refine lv_aload_n hx hb dX5_dropPieces_22 rfl (lv_at hl 0 rfl) ?_
          refine va_get (D := D) (ci := 5) (v := .ref (md 22)) (C := RX5) (T := TX5) (N := 31) hx hb hts inX5 hown hK hP 0 rfl rfl 22 (by decide) f56 (fun _ h9 => h9) rfl dX5_dropPieces_23 ?_
          refine lv_iload_n hx hb dX5_dropPieces_26 rfl (lv_at hl 2 rfl) ?_
          refine lv_aload_n hx hb dX5_dropPieces_27 rfl (lv_at hl 0 rfl) ?_
          refine va_get (D := D) (ci := 5) (v := .ref (md 22)) (C := RX5) (T := TX5) (N := 31) hx hb hts inX5 hown hK hP 0 rfl rfl 22 (by decide) f56 (fun _ h9 => h9) rfl dX5_dropPieces_28 ?_
          refine lv_iload_n hx hb dX5_dropPieces_31 rfl (lv_at hl 3 rfl) ?_
          refine jv_iald hx hb hK hP 1 0 rfl rfl (i := i) ⟨by omega, by omega⟩ (Nat.le_of_ble_eq_true rfl) dX5_dropPieces_32 ?_
          refine jv_iast hx hb hK hP hD hS 1 0 rfl rfl (i := kp) (x := (rl' i)) ⟨by omega, by omega⟩ (Nat.le_of_ble_eq_true rfl) dX5_dropPieces_33 (fun H locs hP hD hS => ?_)
          have hP : va_P D jcl [(hm, .inr (5, [.int (jI co), .int (jI ly), .int (jI nt), .ref (md 3), .int (jI ns), .ref (md 5), .ref (md 6), .ref (md 7), .int (jI nd), .ref (md 9), .ref (md 10), .ref (md 11), .int (jI np), .ref (md 13), .ref (md 14), .ref (md 15), .ref (md 16), .ref (md 17), .ref (md 18), .ref (md 19), .ref (md 20), .int (jI nq), .ref (md 22), .ref (md 23), .ref (md 24), .ref (md 25), .ref (md 26), .int (jI tq), .ref (md 28), .ref (md 29), .ref (md 30)])), ((md 22), .inl (g.1, 1500, .inl (aI (upI rl' kp (rl' i))))), ((md 23), .inl (g.1, 1500, .inl (aI rx'))), ((md 24), .inl (g.1, 1500, .inl (aI ry'))), ((md 25), .inl (g.1, 1500, .inl (aI rs'))), ((md 26), .inl (g.1, 1500, .inl (aI rt')))] H := hP
          have hD : va_D A [(hm, .inr (5, [.int (jI co), .int (jI ly), .int (jI nt), .ref (md 3), .int (jI ns), .ref (md 5), .ref (md 6), .ref (md 7), .int (jI nd), .ref (md 9), .ref (md 10), .ref (md 11), .int (jI np), .ref (md 13), .ref (md 14), .ref (md 15), .ref (md 16), .ref (md 17), .ref (md 18), .ref (md 19), .ref (md 20), .int (jI nq), .ref (md 22), .ref (md 23), .ref (md 24), .ref (md 25), .ref (md 26), .int (jI tq), .ref (md 28), .ref (md 29), .ref (md 30)])), ((md 22), .inl (g.1, 1500, .inl (aI (upI rl' kp (rl' i))))), ((md 23), .inl (g.1, 1500, .inl (aI rx'))), ((md 24), .inl (g.1, 1500, .inl (aI ry'))), ((md 25), .inl (g.1, 1500, .inl (aI rs'))), ((md 26), .inl (g.1, 1500, .inl (aI rt')))] := hD
          refine lv_aload_n hx hb dX5_dropPieces_34 rfl (lv_at hl 0 rfl) ?_
          refine va_get (D := D) (ci := 5) (v := .ref (md 23)) (C := RX5) (T := TX5) (N := 31) hx hb hts inX5 hown hK hP 0 rfl rfl 23 (by decide) f59 (fun _ h9 => h9) rfl dX5_dropPieces_35 ?_
          refine lv_iload_n hx hb dX5_dropPieces_38 rfl (lv_at hl 2 rfl) ?_
          refine lv_aload_n hx hb dX5_dropPieces_39 rfl (lv_at hl 0 rfl) ?_
          refine va_get (D := D) (ci := 5) (v := .ref (md 23)) (C := RX5) (T := TX5) (N := 31) hx hb hts inX5 hown hK hP 0 rfl rfl 23 (by decide) f59 (fun _ h9 => h9) rfl dX5_dropPieces_40 ?_
          refine lv_iload_n hx hb dX5_dropPieces_43 rfl (lv_at hl 3 rfl) ?_
          refine jv_iald hx hb hK hP 2 0 rfl rfl (i := i) ⟨by omega, by omega⟩ (Nat.le_of_ble_eq_true rfl) dX5_dropPieces_44 ?_
          refine jv_iast hx hb hK hP hD hS 2 0 rfl rfl (i := kp) (x := (rx' i)) ⟨by omega, by omega⟩ (Nat.le_of_ble_eq_true rfl) dX5_dropPieces_45 (fun H locs hP hD hS => ?_)
          have hP : va_P D jcl [(hm, .inr (5, [.int (jI co), .int (jI ly), .int (jI nt), .ref (md 3), .int (jI ns), .ref (md 5), .ref (md 6), .ref (md 7), .int (jI nd), .ref (md 9), .ref (md 10), .ref (md 11), .int (jI np), .ref (md 13), .ref (md 14), .ref (md 15), .ref (md 16), .ref (md 17), .ref (md 18), .ref (md 19), .ref (md 20), .int (jI nq), .ref (md 22), .ref (md 23), .ref (md 24), .ref (md 25), .ref (md 26), .int (jI tq), .ref (md 28), .ref (md 29), .ref (md 30)])), ((md 22), .inl (g.1, 1500, .inl (aI (upI rl' kp (rl' i))))), ((md 23), .inl (g.1, 1500, .inl (aI (upI rx' kp (rx' i))))), ((md 24), .inl (g.1, 1500, .inl (aI ry'))), ((md 25), .inl (g.1, 1500, .inl (aI rs'))), ((md 26), .inl (g.1, 1500, .inl (aI rt')))] H := hP
          have hD : va_D A [(hm, .inr (5, [.int (jI co), .int (jI ly), .int (jI nt), .ref (md 3), .int (jI ns), .ref (md 5), .ref (md 6), .ref (md 7), .int (jI nd), .ref (md 9), .ref (md 10), .ref (md 11), .int (jI np), .ref (md 13), .ref (md 14), .ref (md 15), .ref (md 16), .ref (md 17), .ref (md 18), .ref (md 19), .ref (md 20), .int (jI nq), .ref (md 22), .ref (md 23), .ref (md 24), .ref (md 25), .ref (md 26), .int (jI tq), .ref (md 28), .ref (md 29), .ref (md 30)])), ((md 22), .inl (g.1, 1500, .inl (aI (upI rl' kp (rl' i))))), ((md 23), .inl (g.1, 1500, .inl (aI (upI rx' kp (rx' i))))), ((md 24), .inl (g.1, 1500, .inl (aI ry'))), ((md 25), .inl (g.1, 1500, .inl (aI rs'))), ((md 26), .inl (g.1, 1500, .inl (aI rt')))] := hD
          refine lv_aload_n hx hb dX5_dropPieces_46 rfl (lv_at hl 0 rfl) ?_
          refine va_get (D := D) (ci := 5) (v := .ref (md 24)) (C := RX5) (T := TX5) (N := 31) hx hb hts inX5 hown hK hP 0 rfl rfl 24 (by decide) f62 (fun _ h9 => h9) rfl dX5_dropPieces_47 ?_
          refine lv_iload_n hx hb dX5_dropPieces_50 rfl (lv_at hl 2 rfl) ?_
          refine lv_aload_n hx hb dX5_dropPieces_51 rfl (lv_at hl 0 rfl) ?_
          refine va_get (D := D) (ci := 5) (v := .ref (md 24)) (C := RX5) (T := TX5) (N := 31) hx hb hts inX5 hown hK hP 0 rfl rfl 24 (by decide) f62 (fun _ h9 => h9) rfl dX5_dropPieces_52 ?_
          refine lv_iload_n hx hb dX5_dropPieces_55 rfl (lv_at hl 3 rfl) ?_
          refine jv_iald hx hb hK hP 3 0 rfl rfl (i := i) ⟨by omega, by omega⟩ (Nat.le_of_ble_eq_true rfl) dX5_dropPieces_56 ?_
          refine jv_iast hx hb hK hP hD hS 3 0 rfl rfl (i := kp) (x := (ry' i)) ⟨by omega, by omega⟩ (Nat.le_of_ble_eq_true rfl) dX5_dropPieces_57 (fun H locs hP hD hS => ?_)
          have hP : va_P D jcl [(hm, .inr (5, [.int (jI co), .int (jI ly), .int (jI nt), .ref (md 3), .int (jI ns), .ref (md 5), .ref (md 6), .ref (md 7), .int (jI nd), .ref (md 9), .ref (md 10), .ref (md 11), .int (jI np), .ref (md 13), .ref (md 14), .ref (md 15), .ref (md 16), .ref (md 17), .ref (md 18), .ref (md 19), .ref (md 20), .int (jI nq), .ref (md 22), .ref (md 23), .ref (md 24), .ref (md 25), .ref (md 26), .int (jI tq), .ref (md 28), .ref (md 29), .ref (md 30)])), ((md 22), .inl (g.1, 1500, .inl (aI (upI rl' kp (rl' i))))), ((md 23), .inl (g.1, 1500, .inl (aI (upI rx' kp (rx' i))))), ((md 24), .inl (g.1, 1500, .inl (aI (upI ry' kp (ry' i))))), ((md 25), .inl (g.1, 1500, .inl (aI rs'))), ((md 26), .inl (g.1, 1500, .inl (aI rt')))] H := hP
          have hD : va_D A [(hm, .inr (5, [.int (jI co), .int (jI ly), .int (jI nt), .ref (md 3), .int (jI ns), .ref (md 5), .ref (md 6), .ref (md 7), .int (jI nd), .ref (md 9), .ref (md 10), .ref (md 11), .int (jI np), .ref (md 13), .ref (md 14), .ref (md 15), .ref (md 16), .ref (md 17), .ref (md 18), .ref (md 19), .ref (md 20), .int (jI nq), .ref (md 22), .ref (md 23), .ref (md 24), .ref (md 25), .ref (md 26), .int (jI tq), .ref (md 28), .ref (md 29), .ref (md 30)])), ((md 22), .inl (g.1, 1500, .inl (aI (upI rl' kp (rl' i))))), ((md 23), .inl (g.1, 1500, .inl (aI (upI rx' kp (rx' i))))), ((md 24), .inl (g.1, 1500, .inl (aI (upI ry' kp (ry' i))))), ((md 25), .inl (g.1, 1500, .inl (aI rs'))), ((md 26), .inl (g.1, 1500, .inl (aI rt')))] := hD
          refine lv_aload_n hx hb dX5_dropPieces_58 rfl (lv_at hl 0 rfl) ?_
          refine va_get (D := D) (ci := 5) (v := .ref (md 25)) (C := RX5) (T := TX5) (N := 31) hx hb hts inX5 hown hK hP 0 rfl rfl 25 (by decide) f65 (fun _ h9 => h9) rfl dX5_dropPieces_59 ?_
          refine lv_iload_n hx hb dX5_dropPieces_62 rfl (lv_at hl 2 rfl) ?_
          refine lv_aload_n hx hb dX5_dropPieces_63 rfl (lv_at hl 0 rfl) ?_
          refine va_get (D := D) (ci := 5) (v := .ref (md 25)) (C := RX5) (T := TX5) (N := 31) hx hb hts inX5 hown hK hP 0 rfl rfl 25 (by decide) f65 (fun _ h9 => h9) rfl dX5_dropPieces_64 ?_
          refine lv_iload_n hx hb dX5_dropPieces_67 rfl (lv_at hl 3 rfl) ?_
          refine jv_iald hx hb hK hP 4 0 rfl rfl (i := i) ⟨by omega, by omega⟩ (Nat.le_of_ble_eq_true rfl) dX5_dropPieces_68 ?_
          refine jv_iast hx hb hK hP hD hS 4 0 rfl rfl (i := kp) (x := (rs' i)) ⟨by omega, by omega⟩ (Nat.le_of_ble_eq_true rfl) dX5_dropPieces_69 (fun H locs hP hD hS => ?_)
          have hP : va_P D jcl [(hm, .inr (5, [.int (jI co), .int (jI ly), .int (jI nt), .ref (md 3), .int (jI ns), .ref (md 5), .ref (md 6), .ref (md 7), .int (jI nd), .ref (md 9), .ref (md 10), .ref (md 11), .int (jI np), .ref (md 13), .ref (md 14), .ref (md 15), .ref (md 16), .ref (md 17), .ref (md 18), .ref (md 19), .ref (md 20), .int (jI nq), .ref (md 22), .ref (md 23), .ref (md 24), .ref (md 25), .ref (md 26), .int (jI tq), .ref (md 28), .ref (md 29), .ref (md 30)])), ((md 22), .inl (g.1, 1500, .inl (aI (upI rl' kp (rl' i))))), ((md 23), .inl (g.1, 1500, .inl (aI (upI rx' kp (rx' i))))), ((md 24), .inl (g.1, 1500, .inl (aI (upI ry' kp (ry' i))))), ((md 25), .inl (g.1, 1500, .inl (aI (upI rs' kp (rs' i))))), ((md 26), .inl (g.1, 1500, .inl (aI rt')))] H := hP
          have hD : va_D A [(hm, .inr (5, [.int (jI co), .int (jI ly), .int (jI nt), .ref (md 3), .int (jI ns), .ref (md 5), .ref (md 6), .ref (md 7), .int (jI nd), .ref (md 9), .ref (md 10), .ref (md 11), .int (jI np), .ref (md 13), .ref (md 14), .ref (md 15), .ref (md 16), .ref (md 17), .ref (md 18), .ref (md 19), .ref (md 20), .int (jI nq), .ref (md 22), .ref (md 23), .ref (md 24), .ref (md 25), .ref (md 26), .int (jI tq), .ref (md 28), .ref (md 29), .ref (md 30)])), ((md 22), .inl (g.1, 1500, .inl (aI (upI rl' kp (rl' i))))), ((md 23), .inl (g.1, 1500, .inl (aI (upI rx' kp (rx' i))))), ((md 24), .inl (g.1, 1500, .inl (aI (upI ry' kp (ry' i))))), ((md 25), .inl (g.1, 1500, .inl (aI (upI rs' kp (rs' i))))), ((md 26), .inl (g.1, 1500, .inl (aI rt')))] := hD
          refine lv_aload_n hx hb dX5_dropPieces_70 rfl (lv_at hl 0 rfl) ?_
          refine va_get (D := D) (ci := 5) (v := .ref (md 26)) (C := RX5) (T := TX5) (N := 31) hx hb hts inX5 hown hK hP 0 rfl rfl 26 (by decide) f68 (fun _ h9 => h9) rfl dX5_dropPieces_71 ?_
          refine lv_iload_n hx hb dX5_dropPieces_74 rfl (lv_at hl 2 rfl) ?_
          refine lv_aload_n hx hb dX5_dropPieces_75 rfl (lv_at hl 0 rfl) ?_
          refine va_get (D := D) (ci := 5) (v := .ref (md 26)) (C := RX5) (T := TX5) (N := 31) hx hb hts inX5 hown hK hP 0 rfl rfl 26 (by decide) f68 (fun _ h9 => h9) rfl dX5_dropPieces_76 ?_
          refine lv_iload_n hx hb dX5_dropPieces_79 rfl (lv_at hl 3 rfl) ?_
          refine jv_iald hx hb hK hP 5 0 rfl rfl (i := i) ⟨by omega, by omega⟩ (Nat.le_of_ble_eq_true rfl) dX5_dropPieces_80 ?_
          refine jv_iast hx hb hK hP hD hS 5 0 rfl rfl (i := kp) (x := (rt' i)) ⟨by omega, by omega⟩ (Nat.le_of_ble_eq_true rfl) dX5_dropPieces_81 (fun H locs hP hD hS => ?_)
          have hP : va_P D jcl [(hm, .inr (5, [.int (jI co), .int (jI ly), .int (jI nt), .ref (md 3), .int (jI ns), .ref (md 5), .ref (md 6), .ref (md 7), .int (jI nd), .ref (md 9), .ref (md 10), .ref (md 11), .int (jI np), .ref (md 13), .ref (md 14), .ref (md 15), .ref (md 16), .ref (md 17), .ref (md 18), .ref (md 19), .ref (md 20), .int (jI nq), .ref (md 22), .ref (md 23), .ref (md 24), .ref (md 25), .ref (md 26), .int (jI tq), .ref (md 28), .ref (md 29), .ref (md 30)])), ((md 22), .inl (g.1, 1500, .inl (aI (upI rl' kp (rl' i))))), ((md 23), .inl (g.1, 1500, .inl (aI (upI rx' kp (rx' i))))), ((md 24), .inl (g.1, 1500, .inl (aI (upI ry' kp (ry' i))))), ((md 25), .inl (g.1, 1500, .inl (aI (upI rs' kp (rs' i))))), ((md 26), .inl (g.1, 1500, .inl (aI (upI rt' kp (rt' i)))))] H := hP
          have hD : va_D A [(hm, .inr (5, [.int (jI co), .int (jI ly), .int (jI nt), .ref (md 3), .int (jI ns), .ref (md 5), .ref (md 6), .ref (md 7), .int (jI nd), .ref (md 9), .ref (md 10), .ref (md 11), .int (jI np), .ref (md 13), .ref (md 14), .ref (md 15), .ref (md 16), .ref (md 17), .ref (md 18), .ref (md 19), .ref (md 20), .int (jI nq), .ref (md 22), .ref (md 23), .ref (md 24), .ref (md 25), .ref (md 26), .int (jI tq), .ref (md 28), .ref (md 29), .ref (md 30)])), ((md 22), .inl (g.1, 1500, .inl (aI (upI rl' kp (rl' i))))), ((md 23), .inl (g.1, 1500, .inl (aI (upI rx' kp (rx' i))))), ((md 24), .inl (g.1, 1500, .inl (aI (upI ry' kp (ry' i))))), ((md 25), .inl (g.1, 1500, .inl (aI (upI rs' kp (rs' i))))), ((md 26), .inl (g.1, 1500, .inl (aI (upI rt' kp (rt' i)))))] := hD
          refine jv_iinc (lv2 := [(2, .int (jI (kp + 1))), (0, .ref hm), (1, .int (jI layer)), (3, .int (jI i))]) hx hb dX5_dropPieces_82 hl (k := 2) rfl (by decide) rfl (fun ls hl => ?_)
          refine jv_iinc (lv2 := [(3, .int (jI (i + 1))), (2, .int (jI (kp + 1))), (0, .ref hm), (1, .int (jI layer))]) hx hb dX5_dropPieces_85 hl (k := 3) rfl (by decide) rfl (fun ls hl => ?_)
          refine lv_goto (tgt := 4) hx hb dX5_dropPieces_88 (by decide) ?_
          exact ihL4 (i + 1) (kp + 1) (upI rl' kp (rl' i)) (upI rx' kp (rx' i)) (upI ry' kp (ry' i)) (upI rs' kp (rs' i)) (upI rt' kp (rt' i)) (by omega) (by
            first
            | (rw [flt_n _ hi.1 hq (offL_f (by omega))]; exact h1)
            | (rw [flt_s _ hi.1 hq (offL_t (by omega))]; exact mpI_s h1 (by omega) (by omega) (by omega) (by omega) (by omega) hok2)) (fun k q1 q2 => by
            first
            | exact hr9 k q1 q2
            | (by_cases q3 : k = kp
               · rw [q3, upI_eq]; exact hr9 i hi.1 (by omega)
               · rw [upI_ne _ _ q3]; exact hr9 k q1 q2)) (fun k h => by first | exact hk k (by omega) | exact kp4 (by omega) (hk k (by omega))) (by omega) _ _ _ (hP.sub [0, 1, 2, 3, 4, 5] rfl) (hD.sub [0, 1, 2, 3, 4, 5] (by decide) rfl) hS (lv_sub hl [2, 3, 1, 0] rfl)
  refine jv_iconst hx hb dX5_dropPieces_0 ?_
  refine lv_istore_n (lv' := [(2, .int (jI 0)), (0, .ref hm), (1, .int (jI layer))]) hx hb dX5_dropPieces_1 rfl hl (by decide) rfl (fun ls hl => ?_)
  refine jv_iconst hx hb dX5_dropPieces_2 ?_
  refine lv_istore_n (lv' := [(3, .int (jI 0)), (2, .int (jI 0)), (0, .ref hm), (1, .int (jI layer))]) hx hb dX5_dropPieces_3 rfl hl (by decide) rfl (fun ls hl => ?_)
  exact L4 ((nq + 1 - 0).toNat + 1) 0 0 rl rx ry rs rt (by omega) (by rw [pre_0]; exact mpI_0 _ _ _ _) (hrT) (fun k _ => ⟨rfl, rfl, rfl, rfl⟩) (by omega) _ _ _ (hP.sub [0, 1, 2, 3, 4, 5] rfl) (hD.sub [0, 1, 2, 3, 4, 5] (by decide) rfl) hS (lv_sub hl [2, 3, 1, 0] rfl)

set_option maxHeartbeats 4000000 in
set_option maxRecDepth 100000 in
/-- areOver -/
theorem tX5_areOver (l : Launch) (D : va_G) (g : ClassId × ClassId × ClassId) (a0 : Int) (a1 : Int) (a2 : Int) (a3 : Int) (b0 : Int) (b1 : Int) (b2 : Int) (b3 : Int) (hr : rI a0 ∧ rI a1 ∧ rI a2 ∧ rI a3 ∧ rI b0 ∧ rI b1 ∧ rI b2 ∧ rI b3) : jMi l D g yX5_areOver wsX5_areOver 1 21 [.int (jI a0), .int (jI a1), .int (jI a2), .int (jI a3), .int (jI b0), .int (jI b1), .int (jI b2), .int (jI b3)] [] (S := Unit) (fun z (_ : Unit) => (z = 1 ∧ (a0 < b2 ∧ b0 < a2 ∧ a1 < b3 ∧ b1 < a3)) ∨ (z = 0 ∧ ¬ (a0 < b2 ∧ b0 < a2 ∧ a1 < b3 ∧ b1 < a3))) (fun _ => []) := by
  refine jMz_of (cc := cX5_areOver) (maxL := 8) (by decide) rfl (Nat.le_of_ble_eq_true rfl) ?_
  intro p e s m args below meth c Q A hx hb hml hts hown hK hA hret ls hl hP hD
  have hS : va_S A s.heap s.heap [] := va_S.rf
  have hown : s.vm.findClass RX5 = some m.cls := hown
  have hl : lv_has ls 8 [(0, .int (jI a0)), (1, .int (jI a1)), (2, .int (jI a2)), (3, .int (jI a3)), (4, .int (jI b0)), (5, .int (jI b1)), (6, .int (jI b2)), (7, .int (jI b3))] := hl
  refine lv_iload_n hx hb dX5_areOver_0 rfl (lv_at hl 0 rfl) ?_
  refine lv_iload hx hb dX5_areOver_1 (lv_at hl 6 rfl) ?_
  refine jv_icmp_ge (tgt := 28) hx hb ⟨by omega, by omega⟩ ⟨by omega, by omega⟩ dX5_areOver_3 (by decide) (fun c3 => ?_) (fun c3 => ?_)
  · skip
    refine jv_iconst hx hb dX5_areOver_28 ?_
    exact hret 0 () _ _ _ _ (by omega) (Or.inr ⟨rfl, by omega⟩) (hP.sub [] rfl) (hD.sub [] (by decide) rfl) hS dX5_areOver_29
  · skip
    refine lv_iload hx hb dX5_areOver_6 (lv_at hl 4 rfl) ?_
    refine lv_iload_n hx hb dX5_areOver_8 rfl (lv_at hl 2 rfl) ?_
    refine jv_icmp_ge (tgt := 28) hx hb ⟨by omega, by omega⟩ ⟨by omega, by omega⟩ dX5_areOver_9 (by decide) (fun c9 => ?_) (fun c9 => ?_)
    · skip
      refine jv_iconst hx hb dX5_areOver_28 ?_
      exact hret 0 () _ _ _ _ (by omega) (Or.inr ⟨rfl, by omega⟩) (hP.sub [] rfl) (hD.sub [] (by decide) rfl) hS dX5_areOver_29
    · skip
      refine lv_iload_n hx hb dX5_areOver_12 rfl (lv_at hl 1 rfl) ?_
      refine lv_iload hx hb dX5_areOver_13 (lv_at hl 7 rfl) ?_
      refine jv_icmp_ge (tgt := 28) hx hb ⟨by omega, by omega⟩ ⟨by omega, by omega⟩ dX5_areOver_15 (by decide) (fun c15 => ?_) (fun c15 => ?_)
      · skip
        refine jv_iconst hx hb dX5_areOver_28 ?_
        exact hret 0 () _ _ _ _ (by omega) (Or.inr ⟨rfl, by omega⟩) (hP.sub [] rfl) (hD.sub [] (by decide) rfl) hS dX5_areOver_29
      · skip
        refine lv_iload hx hb dX5_areOver_18 (lv_at hl 5 rfl) ?_
        refine lv_iload_n hx hb dX5_areOver_20 rfl (lv_at hl 3 rfl) ?_
        refine jv_icmp_ge (tgt := 28) hx hb ⟨by omega, by omega⟩ ⟨by omega, by omega⟩ dX5_areOver_21 (by decide) (fun c21 => ?_) (fun c21 => ?_)
        · skip
          refine jv_iconst hx hb dX5_areOver_28 ?_
          exact hret 0 () _ _ _ _ (by omega) (Or.inr ⟨rfl, by omega⟩) (hP.sub [] rfl) (hD.sub [] (by decide) rfl) hS dX5_areOver_29
        · skip
          refine jv_iconst hx hb dX5_areOver_24 ?_
          refine lv_goto (tgt := 29) hx hb dX5_areOver_25 (by decide) ?_
          exact hret 1 () _ _ _ _ (by omega) (Or.inl ⟨rfl, by omega⟩) (hP.sub [] rfl) (hD.sub [] (by decide) rfl) hS dX5_areOver_29

set_option maxHeartbeats 4000000 in
set_option maxRecDepth 100000 in
/-- put -/
theorem tX5_put (l : Launch) (D : va_G) (g : ClassId × ClassId × ClassId) (hm : Nat) (md : Nat → Nat) (co : Int) (ly : Int) (nt : Int) (ns : Int) (nd : Int) (np : Int) (nq : Int) (tq : Int) (rl : Int → Int) (rx : Int → Int) (ry : Int → Int) (rs : Int → Int) (rt : Int → Int) (pl9 : Int) (pt9 : Int) (px9 : Int) (py9 : Int) (ps9 : Int) (hnq : 0 ≤ nq ∧ nq < 1500) : jMv l D g yX5_put wsX5_put 1 21 [.ref hm, .int (jI pl9), .int (jI pt9), .int (jI px9), .int (jI py9), .int (jI ps9)] [(hm, .inr (5, [.int (jI co), .int (jI ly), .int (jI nt), .ref (md 3), .int (jI ns), .ref (md 5), .ref (md 6), .ref (md 7), .int (jI nd), .ref (md 9), .ref (md 10), .ref (md 11), .int (jI np), .ref (md 13), .ref (md 14), .ref (md 15), .ref (md 16), .ref (md 17), .ref (md 18), .ref (md 19), .ref (md 20), .int (jI nq), .ref (md 22), .ref (md 23), .ref (md 24), .ref (md 25), .ref (md 26), .int (jI tq), .ref (md 28), .ref (md 29), .ref (md 30)])), ((md 22), .inl (g.1, 1500, .inl (aI rl))), ((md 23), .inl (g.1, 1500, .inl (aI rx))), ((md 24), .inl (g.1, 1500, .inl (aI ry))), ((md 25), .inl (g.1, 1500, .inl (aI rs))), ((md 26), .inl (g.1, 1500, .inl (aI rt)))] (S := Unit) (fun (_ : Unit) => True) (fun _ => [(hm, .inr (5, [.int (jI co), .int (jI ly), .int (jI nt), .ref (md 3), .int (jI ns), .ref (md 5), .ref (md 6), .ref (md 7), .int (jI nd), .ref (md 9), .ref (md 10), .ref (md 11), .int (jI np), .ref (md 13), .ref (md 14), .ref (md 15), .ref (md 16), .ref (md 17), .ref (md 18), .ref (md 19), .ref (md 20), .int (jI (nq + 1)), .ref (md 22), .ref (md 23), .ref (md 24), .ref (md 25), .ref (md 26), .int (jI tq), .ref (md 28), .ref (md 29), .ref (md 30)])), ((md 22), .inl (g.1, 1500, .inl (aI (upI rl nq pl9)))), ((md 23), .inl (g.1, 1500, .inl (aI (upI rx nq px9)))), ((md 24), .inl (g.1, 1500, .inl (aI (upI ry nq py9)))), ((md 25), .inl (g.1, 1500, .inl (aI (upI rs nq ps9)))), ((md 26), .inl (g.1, 1500, .inl (aI (upI rt nq pt9))))]) := by
  refine jMv_of (cc := cX5_put) (maxL := 6) (by decide) rfl (Nat.le_of_ble_eq_true rfl) ?_
  intro p e s m args below meth c Q A hx hb hml hts hown hK hA hret ls hl hP hD
  have hS : va_S A s.heap s.heap [] := va_S.rf
  have hown : s.vm.findClass RX5 = some m.cls := hown
  have f56 := hts (.fieldLink RX5 56 "AntennaFillModel" "pieceLayer" "[I") (by decide +kernel)
  have f59 := hts (.fieldLink RX5 59 "AntennaFillModel" "pieceX" "[I") (by decide +kernel)
  have f62 := hts (.fieldLink RX5 62 "AntennaFillModel" "pieceY" "[I") (by decide +kernel)
  have f65 := hts (.fieldLink RX5 65 "AntennaFillModel" "pieceSize" "[I") (by decide +kernel)
  have f68 := hts (.fieldLink RX5 68 "AntennaFillModel" "pieceTile" "[I") (by decide +kernel)
  have f165 := hts (.fieldLink RX5 165 "AntennaFillModel" "pieces" "I") (by decide +kernel)
  have inX5 : ∀ w ∈ wsX50, w ∈ wsX5_put := by decide +kernel
  have hl : lv_has ls 6 [(0, .ref hm), (1, .int (jI pl9)), (2, .int (jI pt9)), (3, .int (jI px9)), (4, .int (jI py9)), (5, .int (jI ps9))] := hl
  refine lv_aload_n hx hb dX5_put_0 rfl (lv_at hl 0 rfl) ?_
  refine va_get (D := D) (ci := 5) (v := .ref (md 22)) (C := RX5) (T := TX5) (N := 31) hx hb hts inX5 hown hK hP 0 rfl rfl 22 (by decide) f56 (fun _ h9 => h9) rfl dX5_put_1 ?_
  refine lv_aload_n hx hb dX5_put_4 rfl (lv_at hl 0 rfl) ?_
  refine va_get (D := D) (ci := 5) (v := .int (jI nq)) (C := RX5) (T := TX5) (N := 31) hx hb hts inX5 hown hK hP 0 rfl rfl 21 (by decide) f165 (fun _ h9 => h9) rfl dX5_put_5 ?_
  refine lv_iload_n hx hb dX5_put_8 rfl (lv_at hl 1 rfl) ?_
  refine jv_iast hx hb hK hP hD hS 1 0 rfl rfl (i := nq) (x := pl9) ⟨by omega, by omega⟩ (Nat.le_of_ble_eq_true rfl) dX5_put_9 (fun H locs hP hD hS => ?_)
  have hP : va_P D jcl [(hm, .inr (5, [.int (jI co), .int (jI ly), .int (jI nt), .ref (md 3), .int (jI ns), .ref (md 5), .ref (md 6), .ref (md 7), .int (jI nd), .ref (md 9), .ref (md 10), .ref (md 11), .int (jI np), .ref (md 13), .ref (md 14), .ref (md 15), .ref (md 16), .ref (md 17), .ref (md 18), .ref (md 19), .ref (md 20), .int (jI nq), .ref (md 22), .ref (md 23), .ref (md 24), .ref (md 25), .ref (md 26), .int (jI tq), .ref (md 28), .ref (md 29), .ref (md 30)])), ((md 22), .inl (g.1, 1500, .inl (aI (upI rl nq pl9)))), ((md 23), .inl (g.1, 1500, .inl (aI rx))), ((md 24), .inl (g.1, 1500, .inl (aI ry))), ((md 25), .inl (g.1, 1500, .inl (aI rs))), ((md 26), .inl (g.1, 1500, .inl (aI rt)))] H := hP
  have hD : va_D A [(hm, .inr (5, [.int (jI co), .int (jI ly), .int (jI nt), .ref (md 3), .int (jI ns), .ref (md 5), .ref (md 6), .ref (md 7), .int (jI nd), .ref (md 9), .ref (md 10), .ref (md 11), .int (jI np), .ref (md 13), .ref (md 14), .ref (md 15), .ref (md 16), .ref (md 17), .ref (md 18), .ref (md 19), .ref (md 20), .int (jI nq), .ref (md 22), .ref (md 23), .ref (md 24), .ref (md 25), .ref (md 26), .int (jI tq), .ref (md 28), .ref (md 29), .ref (md 30)])), ((md 22), .inl (g.1, 1500, .inl (aI (upI rl nq pl9)))), ((md 23), .inl (g.1, 1500, .inl (aI rx))), ((md 24), .inl (g.1, 1500, .inl (aI ry))), ((md 25), .inl (g.1, 1500, .inl (aI rs))), ((md 26), .inl (g.1, 1500, .inl (aI rt)))] := hD
  refine lv_aload_n hx hb dX5_put_10 rfl (lv_at hl 0 rfl) ?_
  refine va_get (D := D) (ci := 5) (v := .ref (md 26)) (C := RX5) (T := TX5) (N := 31) hx hb hts inX5 hown hK hP 0 rfl rfl 26 (by decide) f68 (fun _ h9 => h9) rfl dX5_put_11 ?_
  refine lv_aload_n hx hb dX5_put_14 rfl (lv_at hl 0 rfl) ?_
  refine va_get (D := D) (ci := 5) (v := .int (jI nq)) (C := RX5) (T := TX5) (N := 31) hx hb hts inX5 hown hK hP 0 rfl rfl 21 (by decide) f165 (fun _ h9 => h9) rfl dX5_put_15 ?_
  refine lv_iload_n hx hb dX5_put_18 rfl (lv_at hl 2 rfl) ?_
  refine jv_iast hx hb hK hP hD hS 5 0 rfl rfl (i := nq) (x := pt9) ⟨by omega, by omega⟩ (Nat.le_of_ble_eq_true rfl) dX5_put_19 (fun H locs hP hD hS => ?_)
  have hP : va_P D jcl [(hm, .inr (5, [.int (jI co), .int (jI ly), .int (jI nt), .ref (md 3), .int (jI ns), .ref (md 5), .ref (md 6), .ref (md 7), .int (jI nd), .ref (md 9), .ref (md 10), .ref (md 11), .int (jI np), .ref (md 13), .ref (md 14), .ref (md 15), .ref (md 16), .ref (md 17), .ref (md 18), .ref (md 19), .ref (md 20), .int (jI nq), .ref (md 22), .ref (md 23), .ref (md 24), .ref (md 25), .ref (md 26), .int (jI tq), .ref (md 28), .ref (md 29), .ref (md 30)])), ((md 22), .inl (g.1, 1500, .inl (aI (upI rl nq pl9)))), ((md 23), .inl (g.1, 1500, .inl (aI rx))), ((md 24), .inl (g.1, 1500, .inl (aI ry))), ((md 25), .inl (g.1, 1500, .inl (aI rs))), ((md 26), .inl (g.1, 1500, .inl (aI (upI rt nq pt9))))] H := hP
  have hD : va_D A [(hm, .inr (5, [.int (jI co), .int (jI ly), .int (jI nt), .ref (md 3), .int (jI ns), .ref (md 5), .ref (md 6), .ref (md 7), .int (jI nd), .ref (md 9), .ref (md 10), .ref (md 11), .int (jI np), .ref (md 13), .ref (md 14), .ref (md 15), .ref (md 16), .ref (md 17), .ref (md 18), .ref (md 19), .ref (md 20), .int (jI nq), .ref (md 22), .ref (md 23), .ref (md 24), .ref (md 25), .ref (md 26), .int (jI tq), .ref (md 28), .ref (md 29), .ref (md 30)])), ((md 22), .inl (g.1, 1500, .inl (aI (upI rl nq pl9)))), ((md 23), .inl (g.1, 1500, .inl (aI rx))), ((md 24), .inl (g.1, 1500, .inl (aI ry))), ((md 25), .inl (g.1, 1500, .inl (aI rs))), ((md 26), .inl (g.1, 1500, .inl (aI (upI rt nq pt9))))] := hD
  refine lv_aload_n hx hb dX5_put_20 rfl (lv_at hl 0 rfl) ?_
  refine va_get (D := D) (ci := 5) (v := .ref (md 23)) (C := RX5) (T := TX5) (N := 31) hx hb hts inX5 hown hK hP 0 rfl rfl 23 (by decide) f59 (fun _ h9 => h9) rfl dX5_put_21 ?_
  refine lv_aload_n hx hb dX5_put_24 rfl (lv_at hl 0 rfl) ?_
  refine va_get (D := D) (ci := 5) (v := .int (jI nq)) (C := RX5) (T := TX5) (N := 31) hx hb hts inX5 hown hK hP 0 rfl rfl 21 (by decide) f165 (fun _ h9 => h9) rfl dX5_put_25 ?_
  refine lv_iload_n hx hb dX5_put_28 rfl (lv_at hl 3 rfl) ?_
  refine jv_iast hx hb hK hP hD hS 2 0 rfl rfl (i := nq) (x := px9) ⟨by omega, by omega⟩ (Nat.le_of_ble_eq_true rfl) dX5_put_29 (fun H locs hP hD hS => ?_)
  have hP : va_P D jcl [(hm, .inr (5, [.int (jI co), .int (jI ly), .int (jI nt), .ref (md 3), .int (jI ns), .ref (md 5), .ref (md 6), .ref (md 7), .int (jI nd), .ref (md 9), .ref (md 10), .ref (md 11), .int (jI np), .ref (md 13), .ref (md 14), .ref (md 15), .ref (md 16), .ref (md 17), .ref (md 18), .ref (md 19), .ref (md 20), .int (jI nq), .ref (md 22), .ref (md 23), .ref (md 24), .ref (md 25), .ref (md 26), .int (jI tq), .ref (md 28), .ref (md 29), .ref (md 30)])), ((md 22), .inl (g.1, 1500, .inl (aI (upI rl nq pl9)))), ((md 23), .inl (g.1, 1500, .inl (aI (upI rx nq px9)))), ((md 24), .inl (g.1, 1500, .inl (aI ry))), ((md 25), .inl (g.1, 1500, .inl (aI rs))), ((md 26), .inl (g.1, 1500, .inl (aI (upI rt nq pt9))))] H := hP
  have hD : va_D A [(hm, .inr (5, [.int (jI co), .int (jI ly), .int (jI nt), .ref (md 3), .int (jI ns), .ref (md 5), .ref (md 6), .ref (md 7), .int (jI nd), .ref (md 9), .ref (md 10), .ref (md 11), .int (jI np), .ref (md 13), .ref (md 14), .ref (md 15), .ref (md 16), .ref (md 17), .ref (md 18), .ref (md 19), .ref (md 20), .int (jI nq), .ref (md 22), .ref (md 23), .ref (md 24), .ref (md 25), .ref (md 26), .int (jI tq), .ref (md 28), .ref (md 29), .ref (md 30)])), ((md 22), .inl (g.1, 1500, .inl (aI (upI rl nq pl9)))), ((md 23), .inl (g.1, 1500, .inl (aI (upI rx nq px9)))), ((md 24), .inl (g.1, 1500, .inl (aI ry))), ((md 25), .inl (g.1, 1500, .inl (aI rs))), ((md 26), .inl (g.1, 1500, .inl (aI (upI rt nq pt9))))] := hD
  refine lv_aload_n hx hb dX5_put_30 rfl (lv_at hl 0 rfl) ?_
  refine va_get (D := D) (ci := 5) (v := .ref (md 24)) (C := RX5) (T := TX5) (N := 31) hx hb hts inX5 hown hK hP 0 rfl rfl 24 (by decide) f62 (fun _ h9 => h9) rfl dX5_put_31 ?_
  refine lv_aload_n hx hb dX5_put_34 rfl (lv_at hl 0 rfl) ?_
  refine va_get (D := D) (ci := 5) (v := .int (jI nq)) (C := RX5) (T := TX5) (N := 31) hx hb hts inX5 hown hK hP 0 rfl rfl 21 (by decide) f165 (fun _ h9 => h9) rfl dX5_put_35 ?_
  refine lv_iload hx hb dX5_put_38 (lv_at hl 4 rfl) ?_
  refine jv_iast hx hb hK hP hD hS 3 0 rfl rfl (i := nq) (x := py9) ⟨by omega, by omega⟩ (Nat.le_of_ble_eq_true rfl) dX5_put_40 (fun H locs hP hD hS => ?_)
  have hP : va_P D jcl [(hm, .inr (5, [.int (jI co), .int (jI ly), .int (jI nt), .ref (md 3), .int (jI ns), .ref (md 5), .ref (md 6), .ref (md 7), .int (jI nd), .ref (md 9), .ref (md 10), .ref (md 11), .int (jI np), .ref (md 13), .ref (md 14), .ref (md 15), .ref (md 16), .ref (md 17), .ref (md 18), .ref (md 19), .ref (md 20), .int (jI nq), .ref (md 22), .ref (md 23), .ref (md 24), .ref (md 25), .ref (md 26), .int (jI tq), .ref (md 28), .ref (md 29), .ref (md 30)])), ((md 22), .inl (g.1, 1500, .inl (aI (upI rl nq pl9)))), ((md 23), .inl (g.1, 1500, .inl (aI (upI rx nq px9)))), ((md 24), .inl (g.1, 1500, .inl (aI (upI ry nq py9)))), ((md 25), .inl (g.1, 1500, .inl (aI rs))), ((md 26), .inl (g.1, 1500, .inl (aI (upI rt nq pt9))))] H := hP
  have hD : va_D A [(hm, .inr (5, [.int (jI co), .int (jI ly), .int (jI nt), .ref (md 3), .int (jI ns), .ref (md 5), .ref (md 6), .ref (md 7), .int (jI nd), .ref (md 9), .ref (md 10), .ref (md 11), .int (jI np), .ref (md 13), .ref (md 14), .ref (md 15), .ref (md 16), .ref (md 17), .ref (md 18), .ref (md 19), .ref (md 20), .int (jI nq), .ref (md 22), .ref (md 23), .ref (md 24), .ref (md 25), .ref (md 26), .int (jI tq), .ref (md 28), .ref (md 29), .ref (md 30)])), ((md 22), .inl (g.1, 1500, .inl (aI (upI rl nq pl9)))), ((md 23), .inl (g.1, 1500, .inl (aI (upI rx nq px9)))), ((md 24), .inl (g.1, 1500, .inl (aI (upI ry nq py9)))), ((md 25), .inl (g.1, 1500, .inl (aI rs))), ((md 26), .inl (g.1, 1500, .inl (aI (upI rt nq pt9))))] := hD
  refine lv_aload_n hx hb dX5_put_41 rfl (lv_at hl 0 rfl) ?_
  refine va_get (D := D) (ci := 5) (v := .ref (md 25)) (C := RX5) (T := TX5) (N := 31) hx hb hts inX5 hown hK hP 0 rfl rfl 25 (by decide) f65 (fun _ h9 => h9) rfl dX5_put_42 ?_
  refine lv_aload_n hx hb dX5_put_45 rfl (lv_at hl 0 rfl) ?_
  refine va_get (D := D) (ci := 5) (v := .int (jI nq)) (C := RX5) (T := TX5) (N := 31) hx hb hts inX5 hown hK hP 0 rfl rfl 21 (by decide) f165 (fun _ h9 => h9) rfl dX5_put_46 ?_
  refine lv_iload hx hb dX5_put_49 (lv_at hl 5 rfl) ?_
  refine jv_iast hx hb hK hP hD hS 4 0 rfl rfl (i := nq) (x := ps9) ⟨by omega, by omega⟩ (Nat.le_of_ble_eq_true rfl) dX5_put_51 (fun H locs hP hD hS => ?_)
  have hP : va_P D jcl [(hm, .inr (5, [.int (jI co), .int (jI ly), .int (jI nt), .ref (md 3), .int (jI ns), .ref (md 5), .ref (md 6), .ref (md 7), .int (jI nd), .ref (md 9), .ref (md 10), .ref (md 11), .int (jI np), .ref (md 13), .ref (md 14), .ref (md 15), .ref (md 16), .ref (md 17), .ref (md 18), .ref (md 19), .ref (md 20), .int (jI nq), .ref (md 22), .ref (md 23), .ref (md 24), .ref (md 25), .ref (md 26), .int (jI tq), .ref (md 28), .ref (md 29), .ref (md 30)])), ((md 22), .inl (g.1, 1500, .inl (aI (upI rl nq pl9)))), ((md 23), .inl (g.1, 1500, .inl (aI (upI rx nq px9)))), ((md 24), .inl (g.1, 1500, .inl (aI (upI ry nq py9)))), ((md 25), .inl (g.1, 1500, .inl (aI (upI rs nq ps9)))), ((md 26), .inl (g.1, 1500, .inl (aI (upI rt nq pt9))))] H := hP
  have hD : va_D A [(hm, .inr (5, [.int (jI co), .int (jI ly), .int (jI nt), .ref (md 3), .int (jI ns), .ref (md 5), .ref (md 6), .ref (md 7), .int (jI nd), .ref (md 9), .ref (md 10), .ref (md 11), .int (jI np), .ref (md 13), .ref (md 14), .ref (md 15), .ref (md 16), .ref (md 17), .ref (md 18), .ref (md 19), .ref (md 20), .int (jI nq), .ref (md 22), .ref (md 23), .ref (md 24), .ref (md 25), .ref (md 26), .int (jI tq), .ref (md 28), .ref (md 29), .ref (md 30)])), ((md 22), .inl (g.1, 1500, .inl (aI (upI rl nq pl9)))), ((md 23), .inl (g.1, 1500, .inl (aI (upI rx nq px9)))), ((md 24), .inl (g.1, 1500, .inl (aI (upI ry nq py9)))), ((md 25), .inl (g.1, 1500, .inl (aI (upI rs nq ps9)))), ((md 26), .inl (g.1, 1500, .inl (aI (upI rt nq pt9))))] := hD
  refine lv_aload_n hx hb dX5_put_52 rfl (lv_at hl 0 rfl) ?_
  refine lv_dup hx hb dX5_put_53 rfl ?_
  refine va_get (D := D) (ci := 5) (v := .int (jI nq)) (C := RX5) (T := TX5) (N := 31) hx hb hts inX5 hown hK hP 0 rfl rfl 21 (by decide) f165 (fun _ h9 => h9) rfl dX5_put_54 ?_
  refine jv_iconst hx hb dX5_put_57 ?_
  refine jv_iadd hx hb dX5_put_58 ?_
  refine va_put (D := D) (ci := 5) (v := .int (jI (nq + 1))) (ty := .int) (C := RX5) (T := TX5) (N := 31) hx hb hts inX5 tyX5 tyX5_ok nmX5 hown hK hP hD hS 0 rfl rfl 21 (by decide) f165 (fun _ h9 => h9) rfl (by decide +kernel) rfl rfl (Nat.le_of_ble_eq_true rfl) dX5_put_59 (fun H locs hP hD hS => ?_)
  have hP : va_P D jcl [(hm, .inr (5, [.int (jI co), .int (jI ly), .int (jI nt), .ref (md 3), .int (jI ns), .ref (md 5), .ref (md 6), .ref (md 7), .int (jI nd), .ref (md 9), .ref (md 10), .ref (md 11), .int (jI np), .ref (md 13), .ref (md 14), .ref (md 15), .ref (md 16), .ref (md 17), .ref (md 18), .ref (md 19), .ref (md 20), .int (jI (nq + 1)), .ref (md 22), .ref (md 23), .ref (md 24), .ref (md 25), .ref (md 26), .int (jI tq), .ref (md 28), .ref (md 29), .ref (md 30)])), ((md 22), .inl (g.1, 1500, .inl (aI (upI rl nq pl9)))), ((md 23), .inl (g.1, 1500, .inl (aI (upI rx nq px9)))), ((md 24), .inl (g.1, 1500, .inl (aI (upI ry nq py9)))), ((md 25), .inl (g.1, 1500, .inl (aI (upI rs nq ps9)))), ((md 26), .inl (g.1, 1500, .inl (aI (upI rt nq pt9))))] H := hP
  have hD : va_D A [(hm, .inr (5, [.int (jI co), .int (jI ly), .int (jI nt), .ref (md 3), .int (jI ns), .ref (md 5), .ref (md 6), .ref (md 7), .int (jI nd), .ref (md 9), .ref (md 10), .ref (md 11), .int (jI np), .ref (md 13), .ref (md 14), .ref (md 15), .ref (md 16), .ref (md 17), .ref (md 18), .ref (md 19), .ref (md 20), .int (jI (nq + 1)), .ref (md 22), .ref (md 23), .ref (md 24), .ref (md 25), .ref (md 26), .int (jI tq), .ref (md 28), .ref (md 29), .ref (md 30)])), ((md 22), .inl (g.1, 1500, .inl (aI (upI rl nq pl9)))), ((md 23), .inl (g.1, 1500, .inl (aI (upI rx nq px9)))), ((md 24), .inl (g.1, 1500, .inl (aI (upI ry nq py9)))), ((md 25), .inl (g.1, 1500, .inl (aI (upI rs nq ps9)))), ((md 26), .inl (g.1, 1500, .inl (aI (upI rt nq pt9))))] := hD
  exact hret  () _ _ _ _ (trivial) (hP.sub [0, 1, 2, 3, 4, 5] rfl) (hD.sub [0, 1, 2, 3, 4, 5] (by decide) rfl) hS dX5_put_62

set_option maxHeartbeats 4000000 in
set_option maxRecDepth 100000 in
/-- inTile -/
theorem tX5_inTile (l : Launch) (D : va_G) (g : ClassId × ClassId × ClassId) (hm : Nat) (md : Nat → Nat) (co : Int) (ly : Int) (nt : Int) (ns : Int) (nd : Int) (np : Int) (nq : Int) (tq : Int) (mf : Int → Int64) (t9 : Int) (ht9 : 0 ≤ t9 ∧ t9 < 25) : jMi l D g yX5_inTile wsX5_inTile 3 100 [.ref hm, .int (jI t9)] [(hm, .inr (5, [.int (jI co), .int (jI ly), .int (jI nt), .ref (md 3), .int (jI ns), .ref (md 5), .ref (md 6), .ref (md 7), .int (jI nd), .ref (md 9), .ref (md 10), .ref (md 11), .int (jI np), .ref (md 13), .ref (md 14), .ref (md 15), .ref (md 16), .ref (md 17), .ref (md 18), .ref (md 19), .ref (md 20), .int (jI nq), .ref (md 22), .ref (md 23), .ref (md 24), .ref (md 25), .ref (md 26), .int (jI tq), .ref (md 28), .ref (md 29), .ref (md 30)])), ((md 29), .inl (g.2.1, 16000, .inr (.inl (aW mf))))] (S := Unit) (fun z (_ : Unit) => z = cm (mk mf) (t9 % 5 * 200) (t9 % 5 * 200 + 200) (t9 / 5 * 200) (t9 / 5 * 200 + 200)) (fun _ => [(hm, .inr (5, [.int (jI co), .int (jI ly), .int (jI nt), .ref (md 3), .int (jI ns), .ref (md 5), .ref (md 6), .ref (md 7), .int (jI nd), .ref (md 9), .ref (md 10), .ref (md 11), .int (jI np), .ref (md 13), .ref (md 14), .ref (md 15), .ref (md 16), .ref (md 17), .ref (md 18), .ref (md 19), .ref (md 20), .int (jI nq), .ref (md 22), .ref (md 23), .ref (md 24), .ref (md 25), .ref (md 26), .int (jI tq), .ref (md 28), .ref (md 29), .ref (md 30)])), ((md 29), .inl (g.2.1, 16000, .inr (.inl (aW mf))))]) := by
  refine jMi_of (cc := cX5_inTile) (maxL := 4) (by decide) rfl (Nat.le_of_ble_eq_true rfl) ?_
  intro p e s m args below meth c Q A hx hb hml hts hown hK hA hret ls hl hP hD
  have hS : va_S A s.heap s.heap [] := va_S.rf
  have hown : s.vm.findClass RX5 = some m.cls := hown
  have hl : lv_has ls 4 [(0, .ref hm), (1, .int (jI t9))] := hl
  refine jv_sipush hx hb (by decide) dX5_inTile_0 ?_
  refine lv_iload_n hx hb dX5_inTile_3 rfl (lv_at hl 1 rfl) ?_
  refine jv_iconst hx hb dX5_inTile_4 ?_
  refine jv_iremN hx hb ⟨by omega, by omega, by omega⟩ ⟨by omega, by omega, by omega⟩ dX5_inTile_5 ?_
  refine jv_imul hx hb dX5_inTile_6 ?_
  refine jv_nm (fun x9 ex9 => ?_)
  refine lv_istore_n (lv' := [(2, .int (jI x9)), (0, .ref hm), (1, .int (jI t9))]) hx hb dX5_inTile_7 rfl hl (by decide) rfl (fun ls hl => ?_)
  refine jv_sipush hx hb (by decide) dX5_inTile_8 ?_
  refine lv_iload_n hx hb dX5_inTile_11 rfl (lv_at hl 2 rfl) ?_
  refine jv_iconst hx hb dX5_inTile_12 ?_
  refine jv_idivN hx hb ⟨by omega, by omega, by omega⟩ ⟨by omega, by omega, by omega⟩ dX5_inTile_13 ?_
  refine jv_imul hx hb dX5_inTile_14 ?_
  refine jv_nm (fun y9 ey9 => ?_)
  refine lv_istore_n (lv' := [(3, .int (jI y9)), (2, .int (jI x9)), (0, .ref hm), (1, .int (jI t9))]) hx hb dX5_inTile_15 rfl hl (by decide) rfl (fun ls hl => ?_)
  refine lv_aload_n hx hb dX5_inTile_16 rfl (lv_at hl 2 rfl) ?_
  refine lv_iload_n hx hb dX5_inTile_17 rfl (lv_at hl 1 rfl) ?_
  refine lv_iload_n hx hb dX5_inTile_18 rfl (lv_at hl 0 rfl) ?_
  refine lv_iload_n hx hb dX5_inTile_19 rfl (lv_at hl 1 rfl) ?_
  refine jv_sipush hx hb (by decide) dX5_inTile_20 ?_
  refine jv_iadd hx hb dX5_inTile_23 ?_
  refine lv_iload_n hx hb dX5_inTile_24 rfl (lv_at hl 0 rfl) ?_
  refine jv_sipush hx hb (by decide) dX5_inTile_25 ?_
  refine jv_iadd hx hb dX5_inTile_28 ?_
  refine jc_Vi (As := [.int (jI x9), .int (jI y9), .int (jI (x9 + 200)), .int (jI (y9 + 200))]) (rest := []) (wq := []) ⟨hx, hb, hml, hown, hts⟩ (tX5_marked l D g hm md co ly nt ns nd np nq tq mf x9 y9 (x9 + 200) (y9 + 200) (by omega)) (cwV 4 hts gX5_inTile_X5_marked rfl rfl rfl (by decide +kernel) ⟨Nat.le_of_ble_eq_true rfl, Nat.le_of_ble_eq_true rfl⟩) hK hP hD hS hA [0, 1] [] rfl rfl (by decide) (by decide) (by decide) (va_recv hK hP (ci := 5) (q0 := 0) rfl rfl) rfl rfl hl.1 (Nat.le_of_ble_eq_true rfl) dX5_inTile_29 ⟨Nat.le_of_ble_eq_true rfl, Nat.le_of_ble_eq_true rfl⟩ (fun z9 u H locs hu hP hD hS => ?_)
  have hu : z9 = cm (mk mf) x9 (x9 + 200) y9 (y9 + 200) := hu
  have hz9 := hu
  have hP : va_P D jcl [(hm, .inr (5, [.int (jI co), .int (jI ly), .int (jI nt), .ref (md 3), .int (jI ns), .ref (md 5), .ref (md 6), .ref (md 7), .int (jI nd), .ref (md 9), .ref (md 10), .ref (md 11), .int (jI np), .ref (md 13), .ref (md 14), .ref (md 15), .ref (md 16), .ref (md 17), .ref (md 18), .ref (md 19), .ref (md 20), .int (jI nq), .ref (md 22), .ref (md 23), .ref (md 24), .ref (md 25), .ref (md 26), .int (jI tq), .ref (md 28), .ref (md 29), .ref (md 30)])), ((md 29), .inl (g.2.1, 16000, .inr (.inl (aW mf))))] H := hP
  have hD : va_D A [(hm, .inr (5, [.int (jI co), .int (jI ly), .int (jI nt), .ref (md 3), .int (jI ns), .ref (md 5), .ref (md 6), .ref (md 7), .int (jI nd), .ref (md 9), .ref (md 10), .ref (md 11), .int (jI np), .ref (md 13), .ref (md 14), .ref (md 15), .ref (md 16), .ref (md 17), .ref (md 18), .ref (md 19), .ref (md 20), .int (jI nq), .ref (md 22), .ref (md 23), .ref (md 24), .ref (md 25), .ref (md 26), .int (jI tq), .ref (md 28), .ref (md 29), .ref (md 30)])), ((md 29), .inl (g.2.1, 16000, .inr (.inl (aW mf))))] := hD
  exact hret z9 () _ _ _ _ (by rw [hz9, show x9 = t9 % 5 * 200 by omega, show y9 = t9 / 5 * 200 by omega]) (hP.sub [0, 1] rfl) (hD.sub [0, 1] (by decide) rfl) hS dX5_inTile_32
