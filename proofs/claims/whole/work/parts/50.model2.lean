set_option maxHeartbeats 4000000 in
set_option maxRecDepth 100000 in
/-- coveredBy -/
theorem tX5_coveredBy (l : Launch) (D : va_G) (g : ClassId × ClassId × ClassId) (hm : Nat) (md : Nat → Nat) (co : Int) (ly : Int) (nt : Int) (ns : Int) (nd : Int) (np : Int) (nq : Int) (tq : Int) (sn : Int → Int) (sl : Int → Int) (bo : Int → Int) (L : List jQ) (mf : Int → Int64) (net : Int) (layer : Int) (hms : msI sn sl bo ns L) (hns : ns ≤ 200) (hnet : 0 ≤ net ∧ net < 40) (hlay : 0 ≤ layer ∧ layer < 64) : jMi l D g yX5_coveredBy wsX5_coveredBy 3 120 [.ref hm, .int (jI net), .int (jI layer)] [(hm, .inr (5, [.int (jI co), .int (jI ly), .int (jI nt), .ref (md 3), .int (jI ns), .ref (md 5), .ref (md 6), .ref (md 7), .int (jI nd), .ref (md 9), .ref (md 10), .ref (md 11), .int (jI np), .ref (md 13), .ref (md 14), .ref (md 15), .ref (md 16), .ref (md 17), .ref (md 18), .ref (md 19), .ref (md 20), .int (jI nq), .ref (md 22), .ref (md 23), .ref (md 24), .ref (md 25), .ref (md 26), .int (jI tq), .ref (md 28), .ref (md 29), .ref (md 30)])), ((md 5), .inl (g.1, 200, .inl (aI sn))), ((md 6), .inl (g.1, 200, .inl (aI sl))), ((md 7), .inl (g.1, 800, .inl (aI bo))), ((md 29), .inl (g.2.1, 16000, .inr (.inl (aW mf))))] (S := (Int → Int64)) (fun z _ => z = ar L net layer) (fun u => [(hm, .inr (5, [.int (jI co), .int (jI ly), .int (jI nt), .ref (md 3), .int (jI ns), .ref (md 5), .ref (md 6), .ref (md 7), .int (jI nd), .ref (md 9), .ref (md 10), .ref (md 11), .int (jI np), .ref (md 13), .ref (md 14), .ref (md 15), .ref (md 16), .ref (md 17), .ref (md 18), .ref (md 19), .ref (md 20), .int (jI nq), .ref (md 22), .ref (md 23), .ref (md 24), .ref (md 25), .ref (md 26), .int (jI tq), .ref (md 28), .ref (md 29), .ref (md 30)])), ((md 5), .inl (g.1, 200, .inl (aI sn))), ((md 6), .inl (g.1, 200, .inl (aI sl))), ((md 7), .inl (g.1, 800, .inl (aI bo))), ((md 29), .inl (g.2.1, 16000, .inr (.inl (aW u))))]) := by
  refine jMi_of (cc := cX5_coveredBy) (maxL := 5) (by decide) rfl (Nat.le_of_ble_eq_true rfl) ?_
  intro p e s m args below meth c Q A hx hb hml hts hown hK hA hret ls hl hP hD
  have hS : va_S A s.heap s.heap [] := va_S.rf
  have hown : s.vm.findClass RX5 = some m.cls := hown
  have f13 := hts (.fieldLink RX5 13 "AntennaFillModel" "shapeNet" "[I") (by decide +kernel)
  have f17 := hts (.fieldLink RX5 17 "AntennaFillModel" "shapeLayer" "[I") (by decide +kernel)
  have f20 := hts (.fieldLink RX5 20 "AntennaFillModel" "box" "[I") (by decide +kernel)
  have f74 := hts (.fieldLink RX5 74 "AntennaFillModel" "marks" "[J") (by decide +kernel)
  have f102 := hts (.fieldLink RX5 102 "AntennaFillModel" "shapes" "I") (by decide +kernel)
  have inX5 : ∀ w ∈ wsX50, w ∈ wsX5_coveredBy := by decide +kernel
  have hl : lv_has ls 5 [(0, .ref hm), (1, .int (jI net)), (2, .int (jI layer))] := hl
  have hlen := hms.1
  have L5 : ∀ (fuel : Nat) (i : Int) (any9 : Int) (mf' : Int → Int64), (0 ≤ i ∧ i ≤ ns) → ((any9 = 0 ∧ (pre L i).filter (onNL layer net) = []) ∨ (any9 = 1 ∧ mkE mf' (covL ((pre L i).filter (onNL layer net))))) → (ns - i < (fuel : Int)) → ∀ (H : Heap) (locs : List Loc) (ls : Array Slot), va_P D jcl [(hm, .inr (5, [.int (jI co), .int (jI ly), .int (jI nt), .ref (md 3), .int (jI ns), .ref (md 5), .ref (md 6), .ref (md 7), .int (jI nd), .ref (md 9), .ref (md 10), .ref (md 11), .int (jI np), .ref (md 13), .ref (md 14), .ref (md 15), .ref (md 16), .ref (md 17), .ref (md 18), .ref (md 19), .ref (md 20), .int (jI nq), .ref (md 22), .ref (md 23), .ref (md 24), .ref (md 25), .ref (md 26), .int (jI tq), .ref (md 28), .ref (md 29), .ref (md 30)])), ((md 5), .inl (g.1, 200, .inl (aI sn))), ((md 6), .inl (g.1, 200, .inl (aI sl))), ((md 7), .inl (g.1, 800, .inl (aI bo))), ((md 29), .inl (g.2.1, 16000, .inr (.inl (aW mf'))))] H → va_D A [(hm, .inr (5, [.int (jI co), .int (jI ly), .int (jI nt), .ref (md 3), .int (jI ns), .ref (md 5), .ref (md 6), .ref (md 7), .int (jI nd), .ref (md 9), .ref (md 10), .ref (md 11), .int (jI np), .ref (md 13), .ref (md 14), .ref (md 15), .ref (md 16), .ref (md 17), .ref (md 18), .ref (md 19), .ref (md 20), .int (jI nq), .ref (md 22), .ref (md 23), .ref (md 24), .ref (md 25), .ref (md 26), .int (jI tq), .ref (md 28), .ref (md 29), .ref (md 30)])), ((md 5), .inl (g.1, 200, .inl (aI sn))), ((md 6), .inl (g.1, 200, .inl (aI sl))), ((md 7), .inl (g.1, 800, .inl (aI bo))), ((md 29), .inl (g.2.1, 16000, .inr (.inl (aW mf'))))] → va_S A s.heap H locs → lv_has ls 5 [(0, .ref hm), (1, .int (jI net)), (2, .int (jI layer)), (3, .int (jI any9)), (4, .int (jI i))] → W p l e (jR 3 120) s m args below meth c H locs 0 0 Q (F0 m 5 ls []) := by
    intro fuel
    induction fuel with
    | zero =>
      intro i any9 mf' hi ha hfu
      exfalso; omega
    | succ fuel ihL5 =>
      intro i any9 mf' hi ha hfu H locs ls hP hD hS hl
      have hany : any9 = 0 ∨ any9 = 1 := by rcases ha with q9 | q9 <;> omega
      refine lv_iload hx hb dX5_coveredBy_5 (lv_at hl 4 rfl) ?_
      refine lv_aload_n hx hb dX5_coveredBy_7 rfl (lv_at hl 0 rfl) ?_
      refine va_get (D := D) (ci := 5) (v := .int (jI ns)) (C := RX5) (T := TX5) (N := 31) hx hb hts inX5 hown hK hP 0 rfl rfl 4 (by decide) f102 (fun _ h9 => h9) rfl dX5_coveredBy_8 ?_
      refine jv_icmp_ge (tgt := 104) hx hb ⟨by omega, by omega⟩ ⟨by omega, by omega⟩ dX5_coveredBy_11 (by decide) (fun c11 => ?_) (fun c11 => ?_)
      · skip
        have hall := pre_all (L := L) (i := i) (by omega)
        refine lv_iload_n hx hb dX5_coveredBy_104 rfl (lv_at hl 3 rfl) ?_
        refine jv_if_eq (tgt := 123) hx hb ⟨by omega, by omega⟩ dX5_coveredBy_105 (by decide) (fun c105 => ?_) (fun c105 => ?_)
        · skip
          refine jv_iconst hx hb dX5_coveredBy_123 ?_
          exact hret 0 mf' _ _ _ _ (by
            unfold ar
            rcases ha with q9 | q9
            · rw [hall] at q9
              rw [q9.2]
              exact (cm_no fun x y _ _ _ _ => rfl).symm
            · omega) (hP.sub [0, 1, 2, 3, 4] rfl) (hD.sub [0, 1, 2, 3, 4] (by decide) rfl) hS dX5_coveredBy_124
        · skip
          refine lv_aload_n hx hb dX5_coveredBy_108 rfl (lv_at hl 0 rfl) ?_
          refine jv_iconst hx hb dX5_coveredBy_109 ?_
          refine jv_iconst hx hb dX5_coveredBy_110 ?_
          refine jv_sipush hx hb (by decide) dX5_coveredBy_111 ?_
          refine jv_sipush hx hb (by decide) dX5_coveredBy_114 ?_
          refine jc_Vi (As := [.int (jI 0), .int (jI 0), .int (jI 1000), .int (jI 1000)]) (rest := []) (wq := [((md 5), .inl (g.1, 200, .inl (aI sn))), ((md 6), .inl (g.1, 200, .inl (aI sl))), ((md 7), .inl (g.1, 800, .inl (aI bo)))]) ⟨hx, hb, hml, hown, hts⟩ (tX5_marked l D g hm md co ly nt ns nd np nq tq mf' 0 0 1000 1000 (⟨by decide, by decide, by decide, by decide, by decide, by decide⟩)) (cwV 4 hts gX5_coveredBy_X5_marked rfl rfl rfl (by decide +kernel) ⟨Nat.le_of_ble_eq_true rfl, Nat.le_of_ble_eq_true rfl⟩) hK hP hD hS hA [0, 4] [1, 2, 3] rfl rfl (by decide) (by decide) (by decide) (va_recv hK hP (ci := 5) (q0 := 0) rfl rfl) rfl rfl hl.1 (Nat.le_of_ble_eq_true rfl) dX5_coveredBy_117 ⟨Nat.le_of_ble_eq_true rfl, Nat.le_of_ble_eq_true rfl⟩ (fun z9 u H locs hu hP hD hS => ?_)
          have hu : z9 = cm (mk mf') 0 1000 0 1000 := hu
          have hz9 := hu
          have hP : va_P D jcl [((md 5), .inl (g.1, 200, .inl (aI sn))), ((md 6), .inl (g.1, 200, .inl (aI sl))), ((md 7), .inl (g.1, 800, .inl (aI bo))), (hm, .inr (5, [.int (jI co), .int (jI ly), .int (jI nt), .ref (md 3), .int (jI ns), .ref (md 5), .ref (md 6), .ref (md 7), .int (jI nd), .ref (md 9), .ref (md 10), .ref (md 11), .int (jI np), .ref (md 13), .ref (md 14), .ref (md 15), .ref (md 16), .ref (md 17), .ref (md 18), .ref (md 19), .ref (md 20), .int (jI nq), .ref (md 22), .ref (md 23), .ref (md 24), .ref (md 25), .ref (md 26), .int (jI tq), .ref (md 28), .ref (md 29), .ref (md 30)])), ((md 29), .inl (g.2.1, 16000, .inr (.inl (aW mf'))))] H := hP
          have hD : va_D A [((md 5), .inl (g.1, 200, .inl (aI sn))), ((md 6), .inl (g.1, 200, .inl (aI sl))), ((md 7), .inl (g.1, 800, .inl (aI bo))), (hm, .inr (5, [.int (jI co), .int (jI ly), .int (jI nt), .ref (md 3), .int (jI ns), .ref (md 5), .ref (md 6), .ref (md 7), .int (jI nd), .ref (md 9), .ref (md 10), .ref (md 11), .int (jI np), .ref (md 13), .ref (md 14), .ref (md 15), .ref (md 16), .ref (md 17), .ref (md 18), .ref (md 19), .ref (md 20), .int (jI nq), .ref (md 22), .ref (md 23), .ref (md 24), .ref (md 25), .ref (md 26), .int (jI tq), .ref (md 28), .ref (md 29), .ref (md 30)])), ((md 29), .inl (g.2.1, 16000, .inr (.inl (aW mf'))))] := hD
          refine lv_goto (tgt := 124) hx hb dX5_coveredBy_120 (by decide) ?_
          exact hret z9 mf' _ _ _ _ (by
            rw [hz9]
            unfold ar
            rcases ha with q9 | q9
            · omega
            · rw [hall] at q9
              exact mkE_cm q9.2 (by decide) (by decide) (by decide) (by decide)) (hP.sub [3, 0, 1, 2, 4] rfl) (hD.sub [3, 0, 1, 2, 4] (by decide) rfl) hS dX5_coveredBy_124
      · skip
        obtain ⟨q, hq, e0, e1, e2, e3, e4, e5, hok⟩ := ms_at hms (k := i) ⟨hi.1, by omega⟩
        have hok2 := hok
        unfold okQ at hok
        refine lv_aload_n hx hb dX5_coveredBy_14 rfl (lv_at hl 0 rfl) ?_
        refine va_get (D := D) (ci := 5) (v := .ref (md 5)) (C := RX5) (T := TX5) (N := 31) hx hb hts inX5 hown hK hP 0 rfl rfl 5 (by decide) f13 (fun _ h9 => h9) rfl dX5_coveredBy_15 ?_
        refine lv_iload hx hb dX5_coveredBy_18 (lv_at hl 4 rfl) ?_
        refine jv_iald hx hb hK hP 1 0 rfl rfl (i := i) ⟨by omega, by omega⟩ (Nat.le_of_ble_eq_true rfl) dX5_coveredBy_20 ?_
        refine lv_iload_n hx hb dX5_coveredBy_21 rfl (lv_at hl 1 rfl) ?_
        refine jv_icmp_ne (tgt := 98) hx hb ⟨by omega, by omega⟩ ⟨by omega, by omega⟩ dX5_coveredBy_22 (by decide) (fun c22 => ?_) (fun c22 => ?_)
        · skip
          refine jv_iinc (lv2 := [(4, .int (jI (i + 1))), (0, .ref hm), (1, .int (jI net)), (2, .int (jI layer)), (3, .int (jI any9))]) hx hb dX5_coveredBy_98 hl (k := 4) rfl (by decide) rfl (fun ls hl => ?_)
          refine lv_goto (tgt := 5) hx hb dX5_coveredBy_101 (by decide) ?_
          exact ihL5 (i + 1) any9 mf' (by omega) (by
            first
            | (rw [flt_n _ hi.1 hq (dec_f (by omega))]; exact ha)
            | exact Or.inr ⟨rfl, by rw [flt_s _ hi.1 hq (dec_t (by omega))]; exact mkE_s hbase hf1 hok2 e2 e3 e4 e5⟩) (by omega) _ _ _ (hP.sub [0, 1, 2, 3, 4] rfl) (hD.sub [0, 1, 2, 3, 4] (by decide) rfl) hS (lv_sub hl [1, 2, 3, 4, 0] rfl)
        · skip
          refine lv_aload_n hx hb dX5_coveredBy_25 rfl (lv_at hl 0 rfl) ?_
          refine va_get (D := D) (ci := 5) (v := .ref (md 6)) (C := RX5) (T := TX5) (N := 31) hx hb hts inX5 hown hK hP 0 rfl rfl 6 (by decide) f17 (fun _ h9 => h9) rfl dX5_coveredBy_26 ?_
          refine lv_iload hx hb dX5_coveredBy_29 (lv_at hl 4 rfl) ?_
          refine jv_iald hx hb hK hP 2 0 rfl rfl (i := i) ⟨by omega, by omega⟩ (Nat.le_of_ble_eq_true rfl) dX5_coveredBy_31 ?_
          refine lv_iload_n hx hb dX5_coveredBy_32 rfl (lv_at hl 2 rfl) ?_
          refine jv_icmp_ne (tgt := 98) hx hb ⟨by omega, by omega⟩ ⟨by omega, by omega⟩ dX5_coveredBy_33 (by decide) (fun c33 => ?_) (fun c33 => ?_)
          · skip
            refine jv_iinc (lv2 := [(4, .int (jI (i + 1))), (0, .ref hm), (1, .int (jI net)), (2, .int (jI layer)), (3, .int (jI any9))]) hx hb dX5_coveredBy_98 hl (k := 4) rfl (by decide) rfl (fun ls hl => ?_)
            refine lv_goto (tgt := 5) hx hb dX5_coveredBy_101 (by decide) ?_
            exact ihL5 (i + 1) any9 mf' (by omega) (by
              first
              | (rw [flt_n _ hi.1 hq (dec_f (by omega))]; exact ha)
              | exact Or.inr ⟨rfl, by rw [flt_s _ hi.1 hq (dec_t (by omega))]; exact mkE_s hbase hf1 hok2 e2 e3 e4 e5⟩) (by omega) _ _ _ (hP.sub [0, 1, 2, 3, 4] rfl) (hD.sub [0, 1, 2, 3, 4] (by decide) rfl) hS (lv_sub hl [1, 2, 3, 4, 0] rfl)
          · skip
            have J47 : ∀ (f9 : Int → Int64), (mkE f9 (covL ((pre L i).filter (onNL layer net)))) → ∀ (H : Heap) (locs : List Loc) (ls : Array Slot), va_P D jcl [(hm, .inr (5, [.int (jI co), .int (jI ly), .int (jI nt), .ref (md 3), .int (jI ns), .ref (md 5), .ref (md 6), .ref (md 7), .int (jI nd), .ref (md 9), .ref (md 10), .ref (md 11), .int (jI np), .ref (md 13), .ref (md 14), .ref (md 15), .ref (md 16), .ref (md 17), .ref (md 18), .ref (md 19), .ref (md 20), .int (jI nq), .ref (md 22), .ref (md 23), .ref (md 24), .ref (md 25), .ref (md 26), .int (jI tq), .ref (md 28), .ref (md 29), .ref (md 30)])), ((md 5), .inl (g.1, 200, .inl (aI sn))), ((md 6), .inl (g.1, 200, .inl (aI sl))), ((md 7), .inl (g.1, 800, .inl (aI bo))), ((md 29), .inl (g.2.1, 16000, .inr (.inl (aW f9))))] H → va_D A [(hm, .inr (5, [.int (jI co), .int (jI ly), .int (jI nt), .ref (md 3), .int (jI ns), .ref (md 5), .ref (md 6), .ref (md 7), .int (jI nd), .ref (md 9), .ref (md 10), .ref (md 11), .int (jI np), .ref (md 13), .ref (md 14), .ref (md 15), .ref (md 16), .ref (md 17), .ref (md 18), .ref (md 19), .ref (md 20), .int (jI nq), .ref (md 22), .ref (md 23), .ref (md 24), .ref (md 25), .ref (md 26), .int (jI tq), .ref (md 28), .ref (md 29), .ref (md 30)])), ((md 5), .inl (g.1, 200, .inl (aI sn))), ((md 6), .inl (g.1, 200, .inl (aI sl))), ((md 7), .inl (g.1, 800, .inl (aI bo))), ((md 29), .inl (g.2.1, 16000, .inr (.inl (aW f9))))] → va_S A s.heap H locs → lv_has ls 5 [(0, .ref hm), (1, .int (jI net)), (2, .int (jI layer)), (4, .int (jI i))] → W p l e (jR 3 120) s m args below meth c H locs 0 0 Q (F0 m 47 ls []) := by
              intro f9 hbase H locs ls hP hD hS hl
              refine jv_iconst hx hb dX5_coveredBy_47 ?_
              refine lv_istore_n (lv' := [(3, .int (jI 1)), (0, .ref hm), (1, .int (jI net)), (2, .int (jI layer)), (4, .int (jI i))]) hx hb dX5_coveredBy_48 rfl hl (by decide) rfl (fun ls hl => ?_)
              refine lv_aload_n hx hb dX5_coveredBy_49 rfl (lv_at hl 1 rfl) ?_
              refine va_get (D := D) (ci := 5) (v := .ref (md 29)) (C := RX5) (T := TX5) (N := 31) hx hb hts inX5 hown hK hP 0 rfl rfl 29 (by decide) f74 (fun _ h9 => h9) rfl dX5_coveredBy_50 ?_
              refine lv_aload_n hx hb dX5_coveredBy_53 rfl (lv_at hl 1 rfl) ?_
              refine va_get (D := D) (ci := 5) (v := .ref (md 7)) (C := RX5) (T := TX5) (N := 31) hx hb hts inX5 hown hK hP 0 rfl rfl 7 (by decide) f20 (fun _ h9 => h9) rfl dX5_coveredBy_54 ?_
              refine jv_iconst hx hb dX5_coveredBy_57 ?_
              refine lv_iload hx hb dX5_coveredBy_58 (lv_at hl 4 rfl) ?_
              refine jv_imul hx hb dX5_coveredBy_60 ?_
              refine jv_iald hx hb hK hP 3 0 rfl rfl (i := (4 * i)) ⟨by omega, by omega⟩ (Nat.le_of_ble_eq_true rfl) dX5_coveredBy_61 ?_
              refine lv_aload_n hx hb dX5_coveredBy_62 rfl (lv_at hl 1 rfl) ?_
              refine va_get (D := D) (ci := 5) (v := .ref (md 7)) (C := RX5) (T := TX5) (N := 31) hx hb hts inX5 hown hK hP 0 rfl rfl 7 (by decide) f20 (fun _ h9 => h9) rfl dX5_coveredBy_63 ?_
              refine jv_iconst hx hb dX5_coveredBy_66 ?_
              refine lv_iload hx hb dX5_coveredBy_67 (lv_at hl 4 rfl) ?_
              refine jv_imul hx hb dX5_coveredBy_69 ?_
              refine jv_iconst hx hb dX5_coveredBy_70 ?_
              refine jv_iadd hx hb dX5_coveredBy_71 ?_
              refine jv_iald hx hb hK hP 3 0 rfl rfl (i := ((4 * i) + 1)) ⟨by omega, by omega⟩ (Nat.le_of_ble_eq_true rfl) dX5_coveredBy_72 ?_
              refine lv_aload_n hx hb dX5_coveredBy_73 rfl (lv_at hl 1 rfl) ?_
              refine va_get (D := D) (ci := 5) (v := .ref (md 7)) (C := RX5) (T := TX5) (N := 31) hx hb hts inX5 hown hK hP 0 rfl rfl 7 (by decide) f20 (fun _ h9 => h9) rfl dX5_coveredBy_74 ?_
              refine jv_iconst hx hb dX5_coveredBy_77 ?_
              refine lv_iload hx hb dX5_coveredBy_78 (lv_at hl 4 rfl) ?_
              refine jv_imul hx hb dX5_coveredBy_80 ?_
              refine jv_iconst hx hb dX5_coveredBy_81 ?_
              refine jv_iadd hx hb dX5_coveredBy_82 ?_
              refine jv_iald hx hb hK hP 3 0 rfl rfl (i := ((4 * i) + 2)) ⟨by omega, by omega⟩ (Nat.le_of_ble_eq_true rfl) dX5_coveredBy_83 ?_
              refine lv_aload_n hx hb dX5_coveredBy_84 rfl (lv_at hl 1 rfl) ?_
              refine va_get (D := D) (ci := 5) (v := .ref (md 7)) (C := RX5) (T := TX5) (N := 31) hx hb hts inX5 hown hK hP 0 rfl rfl 7 (by decide) f20 (fun _ h9 => h9) rfl dX5_coveredBy_85 ?_
              refine jv_iconst hx hb dX5_coveredBy_88 ?_
              refine lv_iload hx hb dX5_coveredBy_89 (lv_at hl 4 rfl) ?_
              refine jv_imul hx hb dX5_coveredBy_91 ?_
              refine jv_iconst hx hb dX5_coveredBy_92 ?_
              refine jv_iadd hx hb dX5_coveredBy_93 ?_
              refine jv_iald hx hb hK hP 3 0 rfl rfl (i := ((4 * i) + 3)) ⟨by omega, by omega⟩ (Nat.le_of_ble_eq_true rfl) dX5_coveredBy_94 ?_
              refine jc_Sv (As := [.ref (md 29), .int (jI (bo (4 * i))), .int (jI (bo ((4 * i) + 1))), .int (jI (bo ((4 * i) + 2))), .int (jI (bo ((4 * i) + 3)))]) (rest := []) (wq := [(hm, .inr (5, [.int (jI co), .int (jI ly), .int (jI nt), .ref (md 3), .int (jI ns), .ref (md 5), .ref (md 6), .ref (md 7), .int (jI nd), .ref (md 9), .ref (md 10), .ref (md 11), .int (jI np), .ref (md 13), .ref (md 14), .ref (md 15), .ref (md 16), .ref (md 17), .ref (md 18), .ref (md 19), .ref (md 20), .int (jI nq), .ref (md 22), .ref (md 23), .ref (md 24), .ref (md 25), .ref (md 26), .int (jI tq), .ref (md 28), .ref (md 29), .ref (md 30)])), ((md 5), .inl (g.1, 200, .inl (aI sn))), ((md 6), .inl (g.1, 200, .inl (aI sl))), ((md 7), .inl (g.1, 800, .inl (aI bo)))]) ⟨hx, hb, hml, hown, hts⟩ (tX5_mark l D g (md 29) f9 (bo (4 * i)) (bo ((4 * i) + 1)) (bo ((4 * i) + 2)) (bo ((4 * i) + 3)) (⟨⟨by omega, by omega⟩, ⟨by omega, by omega⟩, ⟨by omega, by omega⟩, ⟨by omega, by omega⟩⟩)) (va_cwS 5 hts gX5_coveredBy_X5_mark rfl rfl rfl (by decide +kernel) ⟨Nat.le_of_ble_eq_true rfl, Nat.le_of_ble_eq_true rfl⟩) hK hP hD hS hA [4] [0, 1, 2, 3] rfl rfl (by decide) (by decide) (by decide) rfl rfl hl.1 (Nat.le_of_ble_eq_true rfl) dX5_coveredBy_95 ⟨Nat.le_of_ble_eq_true rfl, Nat.le_of_ble_eq_true rfl⟩ (fun u H locs hu hP hD hS => ?_)
              obtain ⟨f1, rfl⟩ : ∃ z9, z9 = u := ⟨_, rfl⟩
              have hu : mkM f9 f1 (bo (4 * i)) (bo ((4 * i) + 1)) (bo ((4 * i) + 2)) (bo ((4 * i) + 3)) := hu
              have hf1 := hu
              have hP : va_P D jcl [(hm, .inr (5, [.int (jI co), .int (jI ly), .int (jI nt), .ref (md 3), .int (jI ns), .ref (md 5), .ref (md 6), .ref (md 7), .int (jI nd), .ref (md 9), .ref (md 10), .ref (md 11), .int (jI np), .ref (md 13), .ref (md 14), .ref (md 15), .ref (md 16), .ref (md 17), .ref (md 18), .ref (md 19), .ref (md 20), .int (jI nq), .ref (md 22), .ref (md 23), .ref (md 24), .ref (md 25), .ref (md 26), .int (jI tq), .ref (md 28), .ref (md 29), .ref (md 30)])), ((md 5), .inl (g.1, 200, .inl (aI sn))), ((md 6), .inl (g.1, 200, .inl (aI sl))), ((md 7), .inl (g.1, 800, .inl (aI bo))), ((md 29), .inl (g.2.1, 16000, .inr (.inl (aW f1))))] H := hP
              have hD : va_D A [(hm, .inr (5, [.int (jI co), .int (jI ly), .int (jI nt), .ref (md 3), .int (jI ns), .ref (md 5), .ref (md 6), .ref (md 7), .int (jI nd), .ref (md 9), .ref (md 10), .ref (md 11), .int (jI np), .ref (md 13), .ref (md 14), .ref (md 15), .ref (md 16), .ref (md 17), .ref (md 18), .ref (md 19), .ref (md 20), .int (jI nq), .ref (md 22), .ref (md 23), .ref (md 24), .ref (md 25), .ref (md 26), .int (jI tq), .ref (md 28), .ref (md 29), .ref (md 30)])), ((md 5), .inl (g.1, 200, .inl (aI sn))), ((md 6), .inl (g.1, 200, .inl (aI sl))), ((md 7), .inl (g.1, 800, .inl (aI bo))), ((md 29), .inl (g.2.1, 16000, .inr (.inl (aW f1))))] := hD
              refine jv_iinc (lv2 := [(4, .int (jI (i + 1))), (3, .int (jI 1)), (0, .ref hm), (1, .int (jI net)), (2, .int (jI layer))]) hx hb dX5_coveredBy_98 hl (k := 4) rfl (by decide) rfl (fun ls hl => ?_)
              refine lv_goto (tgt := 5) hx hb dX5_coveredBy_101 (by decide) ?_
              exact ihL5 (i + 1) 1 f1 (by omega) (by
                first
                | (rw [flt_n _ hi.1 hq (dec_f (by omega))]; exact ha)
                | exact Or.inr ⟨rfl, by rw [flt_s _ hi.1 hq (dec_t (by omega))]; exact mkE_s hbase hf1 hok2 e2 e3 e4 e5⟩) (by omega) _ _ _ (hP.sub [0, 1, 2, 3, 4] rfl) (hD.sub [0, 1, 2, 3, 4] (by decide) rfl) hS (lv_sub hl [2, 3, 4, 1, 0] rfl)
            refine lv_iload_n hx hb dX5_coveredBy_36 rfl (lv_at hl 3 rfl) ?_
            refine jv_if_ne (tgt := 47) hx hb ⟨by omega, by omega⟩ dX5_coveredBy_37 (by decide) (fun c37 => ?_) (fun c37 => ?_)
            · skip
              exact J47 mf' (by
                rcases ha with q9 | q9
                · omega
                · exact q9.2) _ _ _ (hP.sub [0, 1, 2, 3, 4] rfl) (hD.sub [0, 1, 2, 3, 4] (by decide) rfl) hS (lv_sub hl [0, 1, 2, 4] rfl)
            · skip
              refine lv_aload_n hx hb dX5_coveredBy_40 rfl (lv_at hl 0 rfl) ?_
              refine va_get (D := D) (ci := 5) (v := .ref (md 29)) (C := RX5) (T := TX5) (N := 31) hx hb hts inX5 hown hK hP 0 rfl rfl 29 (by decide) f74 (fun _ h9 => h9) rfl dX5_coveredBy_41 ?_
              refine jc_Sv (As := [.ref (md 29)]) (rest := []) (wq := [(hm, .inr (5, [.int (jI co), .int (jI ly), .int (jI nt), .ref (md 3), .int (jI ns), .ref (md 5), .ref (md 6), .ref (md 7), .int (jI nd), .ref (md 9), .ref (md 10), .ref (md 11), .int (jI np), .ref (md 13), .ref (md 14), .ref (md 15), .ref (md 16), .ref (md 17), .ref (md 18), .ref (md 19), .ref (md 20), .int (jI nq), .ref (md 22), .ref (md 23), .ref (md 24), .ref (md 25), .ref (md 26), .int (jI tq), .ref (md 28), .ref (md 29), .ref (md 30)])), ((md 5), .inl (g.1, 200, .inl (aI sn))), ((md 6), .inl (g.1, 200, .inl (aI sl))), ((md 7), .inl (g.1, 800, .inl (aI bo)))]) ⟨hx, hb, hml, hown, hts⟩ (tX5_clear l D g (md 29) mf' ) (va_cwS 1 hts gX5_coveredBy_X5_clear rfl rfl rfl (by decide +kernel) ⟨Nat.le_of_ble_eq_true rfl, Nat.le_of_ble_eq_true rfl⟩) hK hP hD hS hA [4] [0, 1, 2, 3] rfl rfl (by decide) (by decide) (by decide) rfl rfl hl.1 (Nat.le_of_ble_eq_true rfl) dX5_coveredBy_44 ⟨Nat.le_of_ble_eq_true rfl, Nat.le_of_ble_eq_true rfl⟩ (fun u H locs hu hP hD hS => ?_)
              obtain ⟨f0, rfl⟩ : ∃ z9, z9 = u := ⟨_, rfl⟩
              have hu : mk0 f0 := hu
              have hcl := hu
              have hP : va_P D jcl [(hm, .inr (5, [.int (jI co), .int (jI ly), .int (jI nt), .ref (md 3), .int (jI ns), .ref (md 5), .ref (md 6), .ref (md 7), .int (jI nd), .ref (md 9), .ref (md 10), .ref (md 11), .int (jI np), .ref (md 13), .ref (md 14), .ref (md 15), .ref (md 16), .ref (md 17), .ref (md 18), .ref (md 19), .ref (md 20), .int (jI nq), .ref (md 22), .ref (md 23), .ref (md 24), .ref (md 25), .ref (md 26), .int (jI tq), .ref (md 28), .ref (md 29), .ref (md 30)])), ((md 5), .inl (g.1, 200, .inl (aI sn))), ((md 6), .inl (g.1, 200, .inl (aI sl))), ((md 7), .inl (g.1, 800, .inl (aI bo))), ((md 29), .inl (g.2.1, 16000, .inr (.inl (aW f0))))] H := hP
              have hD : va_D A [(hm, .inr (5, [.int (jI co), .int (jI ly), .int (jI nt), .ref (md 3), .int (jI ns), .ref (md 5), .ref (md 6), .ref (md 7), .int (jI nd), .ref (md 9), .ref (md 10), .ref (md 11), .int (jI np), .ref (md 13), .ref (md 14), .ref (md 15), .ref (md 16), .ref (md 17), .ref (md 18), .ref (md 19), .ref (md 20), .int (jI nq), .ref (md 22), .ref (md 23), .ref (md 24), .ref (md 25), .ref (md 26), .int (jI tq), .ref (md 28), .ref (md 29), .ref (md 30)])), ((md 5), .inl (g.1, 200, .inl (aI sn))), ((md 6), .inl (g.1, 200, .inl (aI sl))), ((md 7), .inl (g.1, 800, .inl (aI bo))), ((md 29), .inl (g.2.1, 16000, .inr (.inl (aW f0))))] := hD
              exact J47 f0 (by
                rcases ha with q9 | q9
                · rw [q9.2]; exact mkE_0 hcl
                · omega) _ _ _ (hP.sub [0, 1, 2, 3, 4] rfl) (hD.sub [0, 1, 2, 3, 4] (by decide) rfl) hS (lv_sub hl [0, 1, 2, 4] rfl)
  refine jv_iconst hx hb dX5_coveredBy_0 ?_
  refine lv_istore_n (lv' := [(3, .int (jI 0)), (0, .ref hm), (1, .int (jI net)), (2, .int (jI layer))]) hx hb dX5_coveredBy_1 rfl hl (by decide) rfl (fun ls hl => ?_)
  refine jv_iconst hx hb dX5_coveredBy_2 ?_
  refine lv_istore (lv' := [(4, .int (jI 0)), (3, .int (jI 0)), (0, .ref hm), (1, .int (jI net)), (2, .int (jI layer))]) hx hb dX5_coveredBy_3 hl (by decide) rfl (fun ls hl => ?_)
  exact L5 ((ns - 0).toNat + 1) 0 0 mf (by omega) (Or.inl ⟨rfl, by rw [pre_0]; rfl⟩) (by omega) _ _ _ (hP.sub [0, 1, 2, 3, 4] rfl) (hD.sub [0, 1, 2, 3, 4] (by decide) rfl) hS (lv_sub hl [2, 3, 4, 1, 0] rfl)

set_option maxHeartbeats 4000000 in
set_option maxRecDepth 100000 in
/-- cover -/
theorem tX5_cover (l : Launch) (D : va_G) (g : ClassId × ClassId × ClassId) (hm : Nat) (md : Nat → Nat) (co : Int) (ly : Int) (nt : Int) (ns : Int) (nd : Int) (np : Int) (nq : Int) (tq : Int) (sn : Int → Int) (sl : Int → Int) (bo : Int → Int) (L : List jQ) (qn : Int → Int) (qs : Int → Int) (qx : Int → Int) (qy : Int → Int) (DD : List jD) (rl : Int → Int) (rx : Int → Int) (ry : Int → Int) (rs : Int → Int) (LP : List jQ) (mf : Int → Int64) (layer : Int) (hms : msI sn sl bo ns L) (hns : ns ≤ 200) (hmd : mdI qn qs qx qy np DD) (hnp : np ≤ 60) (hmp : mpI rl rx ry rs nq LP) (hnq : nq ≤ 1500) (hlay : 0 ≤ layer ∧ layer < 64) : jMv l D g yX5_cover wsX5_cover 3 120 [.ref hm, .int (jI layer)] [(hm, .inr (5, [.int (jI co), .int (jI ly), .int (jI nt), .ref (md 3), .int (jI ns), .ref (md 5), .ref (md 6), .ref (md 7), .int (jI nd), .ref (md 9), .ref (md 10), .ref (md 11), .int (jI np), .ref (md 13), .ref (md 14), .ref (md 15), .ref (md 16), .ref (md 17), .ref (md 18), .ref (md 19), .ref (md 20), .int (jI nq), .ref (md 22), .ref (md 23), .ref (md 24), .ref (md 25), .ref (md 26), .int (jI tq), .ref (md 28), .ref (md 29), .ref (md 30)])), ((md 5), .inl (g.1, 200, .inl (aI sn))), ((md 6), .inl (g.1, 200, .inl (aI sl))), ((md 7), .inl (g.1, 800, .inl (aI bo))), ((md 13), .inl (g.1, 60, .inl (aI qn))), ((md 14), .inl (g.1, 60, .inl (aI qs))), ((md 15), .inl (g.1, 60, .inl (aI qx))), ((md 16), .inl (g.1, 60, .inl (aI qy))), ((md 22), .inl (g.1, 1500, .inl (aI rl))), ((md 23), .inl (g.1, 1500, .inl (aI rx))), ((md 24), .inl (g.1, 1500, .inl (aI ry))), ((md 25), .inl (g.1, 1500, .inl (aI rs))), ((md 29), .inl (g.2.1, 16000, .inr (.inl (aW mf))))] (S := (Int → Int64)) (fun u => mkE u (covL (lcv L (DD.map fun d => d.1) LP layer))) (fun u => [(hm, .inr (5, [.int (jI co), .int (jI ly), .int (jI nt), .ref (md 3), .int (jI ns), .ref (md 5), .ref (md 6), .ref (md 7), .int (jI nd), .ref (md 9), .ref (md 10), .ref (md 11), .int (jI np), .ref (md 13), .ref (md 14), .ref (md 15), .ref (md 16), .ref (md 17), .ref (md 18), .ref (md 19), .ref (md 20), .int (jI nq), .ref (md 22), .ref (md 23), .ref (md 24), .ref (md 25), .ref (md 26), .int (jI tq), .ref (md 28), .ref (md 29), .ref (md 30)])), ((md 5), .inl (g.1, 200, .inl (aI sn))), ((md 6), .inl (g.1, 200, .inl (aI sl))), ((md 7), .inl (g.1, 800, .inl (aI bo))), ((md 13), .inl (g.1, 60, .inl (aI qn))), ((md 14), .inl (g.1, 60, .inl (aI qs))), ((md 15), .inl (g.1, 60, .inl (aI qx))), ((md 16), .inl (g.1, 60, .inl (aI qy))), ((md 22), .inl (g.1, 1500, .inl (aI rl))), ((md 23), .inl (g.1, 1500, .inl (aI rx))), ((md 24), .inl (g.1, 1500, .inl (aI ry))), ((md 25), .inl (g.1, 1500, .inl (aI rs))), ((md 29), .inl (g.2.1, 16000, .inr (.inl (aW u))))]) := by
  refine jMv_of (cc := cX5_cover) (maxL := 3) (by decide) rfl (Nat.le_of_ble_eq_true rfl) ?_
  intro p e s m args below meth c Q A hx hb hml hts hown hK hA hret ls hl hP hD
  have hS : va_S A s.heap s.heap [] := va_S.rf
  have hown : s.vm.findClass RX5 = some m.cls := hown
  have f17 := hts (.fieldLink RX5 17 "AntennaFillModel" "shapeLayer" "[I") (by decide +kernel)
  have f20 := hts (.fieldLink RX5 20 "AntennaFillModel" "box" "[I") (by decide +kernel)
  have f38 := hts (.fieldLink RX5 38 "AntennaFillModel" "placedX" "[I") (by decide +kernel)
  have f41 := hts (.fieldLink RX5 41 "AntennaFillModel" "placedY" "[I") (by decide +kernel)
  have f56 := hts (.fieldLink RX5 56 "AntennaFillModel" "pieceLayer" "[I") (by decide +kernel)
  have f59 := hts (.fieldLink RX5 59 "AntennaFillModel" "pieceX" "[I") (by decide +kernel)
  have f62 := hts (.fieldLink RX5 62 "AntennaFillModel" "pieceY" "[I") (by decide +kernel)
  have f65 := hts (.fieldLink RX5 65 "AntennaFillModel" "pieceSize" "[I") (by decide +kernel)
  have f74 := hts (.fieldLink RX5 74 "AntennaFillModel" "marks" "[J") (by decide +kernel)
  have f102 := hts (.fieldLink RX5 102 "AntennaFillModel" "shapes" "I") (by decide +kernel)
  have f139 := hts (.fieldLink RX5 139 "AntennaFillModel" "placed" "I") (by decide +kernel)
  have f165 := hts (.fieldLink RX5 165 "AntennaFillModel" "pieces" "I") (by decide +kernel)
  have inX5 : ∀ w ∈ wsX50, w ∈ wsX5_cover := by decide +kernel
  have hl : lv_has ls 3 [(0, .ref hm), (1, .int (jI layer))] := hl
  have hlen := hms.1
  have hlen2 := hmd.1
  have hlen3 := hmp.1
  have L135 : ∀ (fuel : Nat) (i : Int) (mf' : Int → Int64), (0 ≤ i ∧ i ≤ nq) → (mkE mf' (covL ([] ++ L.filter (onNL layer (-1)) ++ (DD.map fun d => d.1).filter (onNL layer (-1)) ++ (pre LP i).filter (onNL layer (-1))))) → (nq - i < (fuel : Int)) → ∀ (H : Heap) (locs : List Loc) (ls : Array Slot), va_P D jcl [(hm, .inr (5, [.int (jI co), .int (jI ly), .int (jI nt), .ref (md 3), .int (jI ns), .ref (md 5), .ref (md 6), .ref (md 7), .int (jI nd), .ref (md 9), .ref (md 10), .ref (md 11), .int (jI np), .ref (md 13), .ref (md 14), .ref (md 15), .ref (md 16), .ref (md 17), .ref (md 18), .ref (md 19), .ref (md 20), .int (jI nq), .ref (md 22), .ref (md 23), .ref (md 24), .ref (md 25), .ref (md 26), .int (jI tq), .ref (md 28), .ref (md 29), .ref (md 30)])), ((md 5), .inl (g.1, 200, .inl (aI sn))), ((md 6), .inl (g.1, 200, .inl (aI sl))), ((md 7), .inl (g.1, 800, .inl (aI bo))), ((md 13), .inl (g.1, 60, .inl (aI qn))), ((md 14), .inl (g.1, 60, .inl (aI qs))), ((md 15), .inl (g.1, 60, .inl (aI qx))), ((md 16), .inl (g.1, 60, .inl (aI qy))), ((md 22), .inl (g.1, 1500, .inl (aI rl))), ((md 23), .inl (g.1, 1500, .inl (aI rx))), ((md 24), .inl (g.1, 1500, .inl (aI ry))), ((md 25), .inl (g.1, 1500, .inl (aI rs))), ((md 29), .inl (g.2.1, 16000, .inr (.inl (aW mf'))))] H → va_D A [(hm, .inr (5, [.int (jI co), .int (jI ly), .int (jI nt), .ref (md 3), .int (jI ns), .ref (md 5), .ref (md 6), .ref (md 7), .int (jI nd), .ref (md 9), .ref (md 10), .ref (md 11), .int (jI np), .ref (md 13), .ref (md 14), .ref (md 15), .ref (md 16), .ref (md 17), .ref (md 18), .ref (md 19), .ref (md 20), .int (jI nq), .ref (md 22), .ref (md 23), .ref (md 24), .ref (md 25), .ref (md 26), .int (jI tq), .ref (md 28), .ref (md 29), .ref (md 30)])), ((md 5), .inl (g.1, 200, .inl (aI sn))), ((md 6), .inl (g.1, 200, .inl (aI sl))), ((md 7), .inl (g.1, 800, .inl (aI bo))), ((md 13), .inl (g.1, 60, .inl (aI qn))), ((md 14), .inl (g.1, 60, .inl (aI qs))), ((md 15), .inl (g.1, 60, .inl (aI qx))), ((md 16), .inl (g.1, 60, .inl (aI qy))), ((md 22), .inl (g.1, 1500, .inl (aI rl))), ((md 23), .inl (g.1, 1500, .inl (aI rx))), ((md 24), .inl (g.1, 1500, .inl (aI ry))), ((md 25), .inl (g.1, 1500, .inl (aI rs))), ((md 29), .inl (g.2.1, 16000, .inr (.inl (aW mf'))))] → va_S A s.heap H locs → lv_has ls 3 [(0, .ref hm), (1, .int (jI layer)), (2, .int (jI i))] → W p l e (jR 3 120) s m args below meth c H locs 0 0 Q (F0 m 135 ls []) := by
    intro fuel
    induction fuel with
    | zero =>
      intro i mf' hi h1 hfu
      exfalso; omega
    | succ fuel ihL135 =>
      intro i mf' hi h1 hfu H locs ls hP hD hS hl
      refine lv_iload_n hx hb dX5_cover_135 rfl (lv_at hl 2 rfl) ?_
      refine lv_aload_n hx hb dX5_cover_136 rfl (lv_at hl 0 rfl) ?_
      refine va_get (D := D) (ci := 5) (v := .int (jI nq)) (C := RX5) (T := TX5) (N := 31) hx hb hts inX5 hown hK hP 0 rfl rfl 21 (by decide) f165 (fun _ h9 => h9) rfl dX5_cover_137 ?_
      refine jv_icmp_ge (tgt := 204) hx hb ⟨by omega, by omega⟩ ⟨by omega, by omega⟩ dX5_cover_140 (by decide) (fun c140 => ?_) (fun c140 => ?_)
      · skip
        exact hret  mf' _ _ _ _ (by
          unfold lcv
          rw [← pre_all (L := LP) (i := i) (by omega)]
          exact h1) (hP.sub [0, 1, 2, 3, 4, 5, 6, 7, 8, 9, 10, 11, 12] rfl) (hD.sub [0, 1, 2, 3, 4, 5, 6, 7, 8, 9, 10, 11, 12] (by decide) rfl) hS dX5_cover_204
      · skip
        obtain ⟨q, hq, e1, e2, e3, e4, e5, hok⟩ := mp_at hmp (k := i) ⟨hi.1, by omega⟩
        have hok2 := hok
        unfold okQ at hok
        refine lv_aload_n hx hb dX5_cover_143 rfl (lv_at hl 0 rfl) ?_
        refine va_get (D := D) (ci := 5) (v := .ref (md 22)) (C := RX5) (T := TX5) (N := 31) hx hb hts inX5 hown hK hP 0 rfl rfl 22 (by decide) f56 (fun _ h9 => h9) rfl dX5_cover_144 ?_
        refine lv_iload_n hx hb dX5_cover_147 rfl (lv_at hl 2 rfl) ?_
        refine jv_iald hx hb hK hP 8 0 rfl rfl (i := i) ⟨by omega, by omega⟩ (Nat.le_of_ble_eq_true rfl) dX5_cover_148 ?_
        refine lv_iload_n hx hb dX5_cover_149 rfl (lv_at hl 1 rfl) ?_
        refine jv_icmp_ne (tgt := 198) hx hb ⟨by omega, by omega⟩ ⟨by omega, by omega⟩ dX5_cover_150 (by decide) (fun c150 => ?_) (fun c150 => ?_)
        · skip
          refine jv_iinc (lv2 := [(2, .int (jI (i + 1))), (0, .ref hm), (1, .int (jI layer))]) hx hb dX5_cover_198 hl (k := 2) rfl (by decide) rfl (fun ls hl => ?_)
          refine lv_goto (tgt := 135) hx hb dX5_cover_201 (by decide) ?_
          exact ihL135 (i + 1) mf' (by omega) (by
            first
            | (rw [flt_n _ hi.1 hq (dec_f (by omega))]; exact h1)
            | (rw [flt_s _ hi.1 hq (dec_t ⟨by omega, Or.inl rfl⟩), ← List.append_assoc]; exact mkE_s h1 hf3 hok2 e2 e3 (by omega) (by omega))) (by omega) _ _ _ (hP.sub [0, 1, 2, 3, 4, 5, 6, 7, 8, 9, 10, 11, 12] rfl) (hD.sub [0, 1, 2, 3, 4, 5, 6, 7, 8, 9, 10, 11, 12] (by decide) rfl) hS (lv_sub hl [1, 2, 0] rfl)
        · skip
          refine lv_aload_n hx hb dX5_cover_153 rfl (lv_at hl 0 rfl) ?_
          refine va_get (D := D) (ci := 5) (v := .ref (md 29)) (C := RX5) (T := TX5) (N := 31) hx hb hts inX5 hown hK hP 0 rfl rfl 29 (by decide) f74 (fun _ h9 => h9) rfl dX5_cover_154 ?_
          refine lv_aload_n hx hb dX5_cover_157 rfl (lv_at hl 0 rfl) ?_
          refine va_get (D := D) (ci := 5) (v := .ref (md 23)) (C := RX5) (T := TX5) (N := 31) hx hb hts inX5 hown hK hP 0 rfl rfl 23 (by decide) f59 (fun _ h9 => h9) rfl dX5_cover_158 ?_
          refine lv_iload_n hx hb dX5_cover_161 rfl (lv_at hl 2 rfl) ?_
          refine jv_iald hx hb hK hP 9 0 rfl rfl (i := i) ⟨by omega, by omega⟩ (Nat.le_of_ble_eq_true rfl) dX5_cover_162 ?_
          refine lv_aload_n hx hb dX5_cover_163 rfl (lv_at hl 0 rfl) ?_
          refine va_get (D := D) (ci := 5) (v := .ref (md 24)) (C := RX5) (T := TX5) (N := 31) hx hb hts inX5 hown hK hP 0 rfl rfl 24 (by decide) f62 (fun _ h9 => h9) rfl dX5_cover_164 ?_
          refine lv_iload_n hx hb dX5_cover_167 rfl (lv_at hl 2 rfl) ?_
          refine jv_iald hx hb hK hP 10 0 rfl rfl (i := i) ⟨by omega, by omega⟩ (Nat.le_of_ble_eq_true rfl) dX5_cover_168 ?_
          refine lv_aload_n hx hb dX5_cover_169 rfl (lv_at hl 0 rfl) ?_
          refine va_get (D := D) (ci := 5) (v := .ref (md 23)) (C := RX5) (T := TX5) (N := 31) hx hb hts inX5 hown hK hP 0 rfl rfl 23 (by decide) f59 (fun _ h9 => h9) rfl dX5_cover_170 ?_
          refine lv_iload_n hx hb dX5_cover_173 rfl (lv_at hl 2 rfl) ?_
          refine jv_iald hx hb hK hP 9 0 rfl rfl (i := i) ⟨by omega, by omega⟩ (Nat.le_of_ble_eq_true rfl) dX5_cover_174 ?_
          refine lv_aload_n hx hb dX5_cover_175 rfl (lv_at hl 0 rfl) ?_
          refine va_get (D := D) (ci := 5) (v := .ref (md 25)) (C := RX5) (T := TX5) (N := 31) hx hb hts inX5 hown hK hP 0 rfl rfl 25 (by decide) f65 (fun _ h9 => h9) rfl dX5_cover_176 ?_
          refine lv_iload_n hx hb dX5_cover_179 rfl (lv_at hl 2 rfl) ?_
          refine jv_iald hx hb hK hP 11 0 rfl rfl (i := i) ⟨by omega, by omega⟩ (Nat.le_of_ble_eq_true rfl) dX5_cover_180 ?_
          refine jv_iadd hx hb dX5_cover_181 ?_
          refine lv_aload_n hx hb dX5_cover_182 rfl (lv_at hl 0 rfl) ?_
          refine va_get (D := D) (ci := 5) (v := .ref (md 24)) (C := RX5) (T := TX5) (N := 31) hx hb hts inX5 hown hK hP 0 rfl rfl 24 (by decide) f62 (fun _ h9 => h9) rfl dX5_cover_183 ?_
          refine lv_iload_n hx hb dX5_cover_186 rfl (lv_at hl 2 rfl) ?_
          refine jv_iald hx hb hK hP 10 0 rfl rfl (i := i) ⟨by omega, by omega⟩ (Nat.le_of_ble_eq_true rfl) dX5_cover_187 ?_
          refine lv_aload_n hx hb dX5_cover_188 rfl (lv_at hl 0 rfl) ?_
          refine va_get (D := D) (ci := 5) (v := .ref (md 25)) (C := RX5) (T := TX5) (N := 31) hx hb hts inX5 hown hK hP 0 rfl rfl 25 (by decide) f65 (fun _ h9 => h9) rfl dX5_cover_189 ?_
          refine lv_iload_n hx hb dX5_cover_192 rfl (lv_at hl 2 rfl) ?_
          refine jv_iald hx hb hK hP 11 0 rfl rfl (i := i) ⟨by omega, by omega⟩ (Nat.le_of_ble_eq_true rfl) dX5_cover_193 ?_
          refine jv_iadd hx hb dX5_cover_194 ?_
          refine jc_Sv (As := [.ref (md 29), .int (jI (rx i)), .int (jI (ry i)), .int (jI ((rx i) + (rs i))), .int (jI ((ry i) + (rs i)))]) (rest := []) (wq := [(hm, .inr (5, [.int (jI co), .int (jI ly), .int (jI nt), .ref (md 3), .int (jI ns), .ref (md 5), .ref (md 6), .ref (md 7), .int (jI nd), .ref (md 9), .ref (md 10), .ref (md 11), .int (jI np), .ref (md 13), .ref (md 14), .ref (md 15), .ref (md 16), .ref (md 17), .ref (md 18), .ref (md 19), .ref (md 20), .int (jI nq), .ref (md 22), .ref (md 23), .ref (md 24), .ref (md 25), .ref (md 26), .int (jI tq), .ref (md 28), .ref (md 29), .ref (md 30)])), ((md 5), .inl (g.1, 200, .inl (aI sn))), ((md 6), .inl (g.1, 200, .inl (aI sl))), ((md 7), .inl (g.1, 800, .inl (aI bo))), ((md 13), .inl (g.1, 60, .inl (aI qn))), ((md 14), .inl (g.1, 60, .inl (aI qs))), ((md 15), .inl (g.1, 60, .inl (aI qx))), ((md 16), .inl (g.1, 60, .inl (aI qy))), ((md 22), .inl (g.1, 1500, .inl (aI rl))), ((md 23), .inl (g.1, 1500, .inl (aI rx))), ((md 24), .inl (g.1, 1500, .inl (aI ry))), ((md 25), .inl (g.1, 1500, .inl (aI rs)))]) ⟨hx, hb, hml, hown, hts⟩ (tX5_mark l D g (md 29) mf' (rx i) (ry i) ((rx i) + (rs i)) ((ry i) + (rs i)) (⟨⟨by omega, by omega⟩, ⟨by omega, by omega⟩, ⟨by omega, by omega⟩, ⟨by omega, by omega⟩⟩)) (va_cwS 5 hts gX5_cover_X5_mark rfl rfl rfl (by decide +kernel) ⟨Nat.le_of_ble_eq_true rfl, Nat.le_of_ble_eq_true rfl⟩) hK hP hD hS hA [12] [0, 1, 2, 3, 4, 5, 6, 7, 8, 9, 10, 11] rfl rfl (by decide) (by decide) (by decide) rfl rfl hl.1 (Nat.le_of_ble_eq_true rfl) dX5_cover_195 ⟨Nat.le_of_ble_eq_true rfl, Nat.le_of_ble_eq_true rfl⟩ (fun u H locs hu hP hD hS => ?_)
          obtain ⟨f3, rfl⟩ : ∃ z9, z9 = u := ⟨_, rfl⟩
          have hu : mkM mf' f3 (rx i) (ry i) ((rx i) + (rs i)) ((ry i) + (rs i)) := hu
          have hf3 := hu
          have hP : va_P D jcl [(hm, .inr (5, [.int (jI co), .int (jI ly), .int (jI nt), .ref (md 3), .int (jI ns), .ref (md 5), .ref (md 6), .ref (md 7), .int (jI nd), .ref (md 9), .ref (md 10), .ref (md 11), .int (jI np), .ref (md 13), .ref (md 14), .ref (md 15), .ref (md 16), .ref (md 17), .ref (md 18), .ref (md 19), .ref (md 20), .int (jI nq), .ref (md 22), .ref (md 23), .ref (md 24), .ref (md 25), .ref (md 26), .int (jI tq), .ref (md 28), .ref (md 29), .ref (md 30)])), ((md 5), .inl (g.1, 200, .inl (aI sn))), ((md 6), .inl (g.1, 200, .inl (aI sl))), ((md 7), .inl (g.1, 800, .inl (aI bo))), ((md 13), .inl (g.1, 60, .inl (aI qn))), ((md 14), .inl (g.1, 60, .inl (aI qs))), ((md 15), .inl (g.1, 60, .inl (aI qx))), ((md 16), .inl (g.1, 60, .inl (aI qy))), ((md 22), .inl (g.1, 1500, .inl (aI rl))), ((md 23), .inl (g.1, 1500, .inl (aI rx))), ((md 24), .inl (g.1, 1500, .inl (aI ry))), ((md 25), .inl (g.1, 1500, .inl (aI rs))), ((md 29), .inl (g.2.1, 16000, .inr (.inl (aW f3))))] H := hP
          have hD : va_D A [(hm, .inr (5, [.int (jI co), .int (jI ly), .int (jI nt), .ref (md 3), .int (jI ns), .ref (md 5), .ref (md 6), .ref (md 7), .int (jI nd), .ref (md 9), .ref (md 10), .ref (md 11), .int (jI np), .ref (md 13), .ref (md 14), .ref (md 15), .ref (md 16), .ref (md 17), .ref (md 18), .ref (md 19), .ref (md 20), .int (jI nq), .ref (md 22), .ref (md 23), .ref (md 24), .ref (md 25), .ref (md 26), .int (jI tq), .ref (md 28), .ref (md 29), .ref (md 30)])), ((md 5), .inl (g.1, 200, .inl (aI sn))), ((md 6), .inl (g.1, 200, .inl (aI sl))), ((md 7), .inl (g.1, 800, .inl (aI bo))), ((md 13), .inl (g.1, 60, .inl (aI qn))), ((md 14), .inl (g.1, 60, .inl (aI qs))), ((md 15), .inl (g.1, 60, .inl (aI qx))), ((md 16), .inl (g.1, 60, .inl (aI qy))), ((md 22), .inl (g.1, 1500, .inl (aI rl))), ((md 23), .inl (g.1, 1500, .inl (aI rx))), ((md 24), .inl (g.1, 1500, .inl (aI ry))), ((md 25), .inl (g.1, 1500, .inl (aI rs))), ((md 29), .inl (g.2.1, 16000, .inr (.inl (aW f3))))] := hD
          refine jv_iinc (lv2 := [(2, .int (jI (i + 1))), (0, .ref hm), (1, .int (jI layer))]) hx hb dX5_cover_198 hl (k := 2) rfl (by decide) rfl (fun ls hl => ?_)
          refine lv_goto (tgt := 135) hx hb dX5_cover_201 (by decide) ?_
          exact ihL135 (i + 1) f3 (by omega) (by
            first
            | (rw [flt_n _ hi.1 hq (dec_f (by omega))]; exact h1)
            | (rw [flt_s _ hi.1 hq (dec_t ⟨by omega, Or.inl rfl⟩), ← List.append_assoc]; exact mkE_s h1 hf3 hok2 e2 e3 (by omega) (by omega))) (by omega) _ _ _ (hP.sub [0, 1, 2, 3, 4, 5, 6, 7, 8, 9, 10, 11, 12] rfl) (hD.sub [0, 1, 2, 3, 4, 5, 6, 7, 8, 9, 10, 11, 12] (by decide) rfl) hS (lv_sub hl [1, 2, 0] rfl)
  have L80 : ∀ (fuel : Nat) (i : Int) (mf' : Int → Int64), (0 ≤ i ∧ i ≤ np) → (mkE mf' (covL ([] ++ L.filter (onNL layer (-1)) ++ (pre (DD.map fun d => d.1) i).filter (onNL layer (-1))))) → (np - i < (fuel : Int)) → ∀ (H : Heap) (locs : List Loc) (ls : Array Slot), va_P D jcl [(hm, .inr (5, [.int (jI co), .int (jI ly), .int (jI nt), .ref (md 3), .int (jI ns), .ref (md 5), .ref (md 6), .ref (md 7), .int (jI nd), .ref (md 9), .ref (md 10), .ref (md 11), .int (jI np), .ref (md 13), .ref (md 14), .ref (md 15), .ref (md 16), .ref (md 17), .ref (md 18), .ref (md 19), .ref (md 20), .int (jI nq), .ref (md 22), .ref (md 23), .ref (md 24), .ref (md 25), .ref (md 26), .int (jI tq), .ref (md 28), .ref (md 29), .ref (md 30)])), ((md 5), .inl (g.1, 200, .inl (aI sn))), ((md 6), .inl (g.1, 200, .inl (aI sl))), ((md 7), .inl (g.1, 800, .inl (aI bo))), ((md 13), .inl (g.1, 60, .inl (aI qn))), ((md 14), .inl (g.1, 60, .inl (aI qs))), ((md 15), .inl (g.1, 60, .inl (aI qx))), ((md 16), .inl (g.1, 60, .inl (aI qy))), ((md 22), .inl (g.1, 1500, .inl (aI rl))), ((md 23), .inl (g.1, 1500, .inl (aI rx))), ((md 24), .inl (g.1, 1500, .inl (aI ry))), ((md 25), .inl (g.1, 1500, .inl (aI rs))), ((md 29), .inl (g.2.1, 16000, .inr (.inl (aW mf'))))] H → va_D A [(hm, .inr (5, [.int (jI co), .int (jI ly), .int (jI nt), .ref (md 3), .int (jI ns), .ref (md 5), .ref (md 6), .ref (md 7), .int (jI nd), .ref (md 9), .ref (md 10), .ref (md 11), .int (jI np), .ref (md 13), .ref (md 14), .ref (md 15), .ref (md 16), .ref (md 17), .ref (md 18), .ref (md 19), .ref (md 20), .int (jI nq), .ref (md 22), .ref (md 23), .ref (md 24), .ref (md 25), .ref (md 26), .int (jI tq), .ref (md 28), .ref (md 29), .ref (md 30)])), ((md 5), .inl (g.1, 200, .inl (aI sn))), ((md 6), .inl (g.1, 200, .inl (aI sl))), ((md 7), .inl (g.1, 800, .inl (aI bo))), ((md 13), .inl (g.1, 60, .inl (aI qn))), ((md 14), .inl (g.1, 60, .inl (aI qs))), ((md 15), .inl (g.1, 60, .inl (aI qx))), ((md 16), .inl (g.1, 60, .inl (aI qy))), ((md 22), .inl (g.1, 1500, .inl (aI rl))), ((md 23), .inl (g.1, 1500, .inl (aI rx))), ((md 24), .inl (g.1, 1500, .inl (aI ry))), ((md 25), .inl (g.1, 1500, .inl (aI rs))), ((md 29), .inl (g.2.1, 16000, .inr (.inl (aW mf'))))] → va_S A s.heap H locs → lv_has ls 3 [(0, .ref hm), (1, .int (jI layer)), (2, .int (jI i))] → W p l e (jR 3 120) s m args below meth c H locs 0 0 Q (F0 m 80 ls []) := by
    intro fuel
    induction fuel with
    | zero =>
      intro i mf' hi h1 hfu
      exfalso; omega
    | succ fuel ihL80 =>
      intro i mf' hi h1 hfu H locs ls hP hD hS hl
      refine lv_iload_n hx hb dX5_cover_80 rfl (lv_at hl 2 rfl) ?_
      refine lv_aload_n hx hb dX5_cover_81 rfl (lv_at hl 0 rfl) ?_
      refine va_get (D := D) (ci := 5) (v := .int (jI np)) (C := RX5) (T := TX5) (N := 31) hx hb hts inX5 hown hK hP 0 rfl rfl 12 (by decide) f139 (fun _ h9 => h9) rfl dX5_cover_82 ?_
      refine jv_icmp_ge (tgt := 133) hx hb ⟨by omega, by omega⟩ ⟨by omega, by omega⟩ dX5_cover_85 (by decide) (fun c85 => ?_) (fun c85 => ?_)
      · skip
        have h3 : mkE mf' (covL ([] ++ L.filter (onNL layer (-1)) ++ (DD.map fun d => d.1).filter (onNL layer (-1)))) := by
          rw [← pre_all (L := (DD.map fun d => d.1)) (i := i) (by rw [List.length_map]; omega)]
          exact h1
        refine jv_iconst hx hb dX5_cover_133 ?_
        refine lv_istore_n (lv' := [(2, .int (jI 0)), (0, .ref hm), (1, .int (jI layer))]) hx hb dX5_cover_134 rfl hl (by decide) rfl (fun ls hl => ?_)
        exact L135 ((nq - 0).toNat + 1) 0 mf' (by omega) (by
          rw [pre_0, List.filter_nil, List.append_nil]; exact h3) (by omega) _ _ _ (hP.sub [0, 1, 2, 3, 4, 5, 6, 7, 8, 9, 10, 11, 12] rfl) (hD.sub [0, 1, 2, 3, 4, 5, 6, 7, 8, 9, 10, 11, 12] (by decide) rfl) hS (lv_sub hl [1, 2, 0] rfl)
      · skip
        refine lv_iload_n hx hb dX5_cover_88 rfl (lv_at hl 1 rfl) ?_
        refine jv_if_ne (tgt := 133) hx hb ⟨by omega, by omega⟩ dX5_cover_89 (by decide) (fun c89 => ?_) (fun c89 => ?_)
        · skip
          have h3 : mkE mf' (covL ([] ++ L.filter (onNL layer (-1)) ++ (DD.map fun d => d.1).filter (onNL layer (-1)))) := by
            have e8 : (DD.map fun d => d.1).filter (onNL layer (-1)) = [] := List.filter_eq_nil_iff.mpr (fun p hp => by
              obtain ⟨d, hd, rfl⟩ := List.mem_map.mp hp
              obtain ⟨k, hk⟩ := List.mem_iff_getElem?.mp hd
              have := hmd.2 k d hk
              exact fun r => by
                have r := (decide_eq_true_iff.mp r).1
                omega)
            have e9 : (pre (DD.map fun d => d.1) i).filter (onNL layer (-1)) = [] := List.filter_eq_nil_iff.mpr (fun p hp => List.filter_eq_nil_iff.mp e8 p (pre_in hp))
            rw [e9, List.append_nil] at h1
            rw [e8, List.append_nil]
            exact h1
          refine jv_iconst hx hb dX5_cover_133 ?_
          refine lv_istore_n (lv' := [(2, .int (jI 0)), (0, .ref hm), (1, .int (jI layer))]) hx hb dX5_cover_134 rfl hl (by decide) rfl (fun ls hl => ?_)
          exact L135 ((nq - 0).toNat + 1) 0 mf' (by omega) (by
            rw [pre_0, List.filter_nil, List.append_nil]; exact h3) (by omega) _ _ _ (hP.sub [0, 1, 2, 3, 4, 5, 6, 7, 8, 9, 10, 11, 12] rfl) (hD.sub [0, 1, 2, 3, 4, 5, 6, 7, 8, 9, 10, 11, 12] (by decide) rfl) hS (lv_sub hl [1, 2, 0] rfl)
        · skip
          obtain ⟨q, hq, e0, e1, e2, e3, e4, e5, e6, hok⟩ := md_at hmd (k := i) ⟨hi.1, by omega⟩
          have hok2 := hok
          unfold okQ at hok
          refine lv_aload_n hx hb dX5_cover_92 rfl (lv_at hl 0 rfl) ?_
          refine va_get (D := D) (ci := 5) (v := .ref (md 29)) (C := RX5) (T := TX5) (N := 31) hx hb hts inX5 hown hK hP 0 rfl rfl 29 (by decide) f74 (fun _ h9 => h9) rfl dX5_cover_93 ?_
          refine lv_aload_n hx hb dX5_cover_96 rfl (lv_at hl 0 rfl) ?_
          refine va_get (D := D) (ci := 5) (v := .ref (md 15)) (C := RX5) (T := TX5) (N := 31) hx hb hts inX5 hown hK hP 0 rfl rfl 15 (by decide) f38 (fun _ h9 => h9) rfl dX5_cover_97 ?_
          refine lv_iload_n hx hb dX5_cover_100 rfl (lv_at hl 2 rfl) ?_
          refine jv_iald hx hb hK hP 6 0 rfl rfl (i := i) ⟨by omega, by omega⟩ (Nat.le_of_ble_eq_true rfl) dX5_cover_101 ?_
          refine lv_aload_n hx hb dX5_cover_102 rfl (lv_at hl 0 rfl) ?_
          refine va_get (D := D) (ci := 5) (v := .ref (md 16)) (C := RX5) (T := TX5) (N := 31) hx hb hts inX5 hown hK hP 0 rfl rfl 16 (by decide) f41 (fun _ h9 => h9) rfl dX5_cover_103 ?_
          refine lv_iload_n hx hb dX5_cover_106 rfl (lv_at hl 2 rfl) ?_
          refine jv_iald hx hb hK hP 7 0 rfl rfl (i := i) ⟨by omega, by omega⟩ (Nat.le_of_ble_eq_true rfl) dX5_cover_107 ?_
          refine lv_aload_n hx hb dX5_cover_108 rfl (lv_at hl 0 rfl) ?_
          refine va_get (D := D) (ci := 5) (v := .ref (md 15)) (C := RX5) (T := TX5) (N := 31) hx hb hts inX5 hown hK hP 0 rfl rfl 15 (by decide) f38 (fun _ h9 => h9) rfl dX5_cover_109 ?_
          refine lv_iload_n hx hb dX5_cover_112 rfl (lv_at hl 2 rfl) ?_
          refine jv_iald hx hb hK hP 6 0 rfl rfl (i := i) ⟨by omega, by omega⟩ (Nat.le_of_ble_eq_true rfl) dX5_cover_113 ?_
          refine jv_iconst hx hb dX5_cover_114 ?_
          refine jv_iadd hx hb dX5_cover_115 ?_
          refine lv_aload_n hx hb dX5_cover_116 rfl (lv_at hl 0 rfl) ?_
          refine va_get (D := D) (ci := 5) (v := .ref (md 16)) (C := RX5) (T := TX5) (N := 31) hx hb hts inX5 hown hK hP 0 rfl rfl 16 (by decide) f41 (fun _ h9 => h9) rfl dX5_cover_117 ?_
          refine lv_iload_n hx hb dX5_cover_120 rfl (lv_at hl 2 rfl) ?_
          refine jv_iald hx hb hK hP 7 0 rfl rfl (i := i) ⟨by omega, by omega⟩ (Nat.le_of_ble_eq_true rfl) dX5_cover_121 ?_
          refine jv_iconst hx hb dX5_cover_122 ?_
          refine jv_iadd hx hb dX5_cover_123 ?_
          refine jc_Sv (As := [.ref (md 29), .int (jI (qx i)), .int (jI (qy i)), .int (jI ((qx i) + 4)), .int (jI ((qy i) + 4))]) (rest := []) (wq := [(hm, .inr (5, [.int (jI co), .int (jI ly), .int (jI nt), .ref (md 3), .int (jI ns), .ref (md 5), .ref (md 6), .ref (md 7), .int (jI nd), .ref (md 9), .ref (md 10), .ref (md 11), .int (jI np), .ref (md 13), .ref (md 14), .ref (md 15), .ref (md 16), .ref (md 17), .ref (md 18), .ref (md 19), .ref (md 20), .int (jI nq), .ref (md 22), .ref (md 23), .ref (md 24), .ref (md 25), .ref (md 26), .int (jI tq), .ref (md 28), .ref (md 29), .ref (md 30)])), ((md 5), .inl (g.1, 200, .inl (aI sn))), ((md 6), .inl (g.1, 200, .inl (aI sl))), ((md 7), .inl (g.1, 800, .inl (aI bo))), ((md 13), .inl (g.1, 60, .inl (aI qn))), ((md 14), .inl (g.1, 60, .inl (aI qs))), ((md 15), .inl (g.1, 60, .inl (aI qx))), ((md 16), .inl (g.1, 60, .inl (aI qy))), ((md 22), .inl (g.1, 1500, .inl (aI rl))), ((md 23), .inl (g.1, 1500, .inl (aI rx))), ((md 24), .inl (g.1, 1500, .inl (aI ry))), ((md 25), .inl (g.1, 1500, .inl (aI rs)))]) ⟨hx, hb, hml, hown, hts⟩ (tX5_mark l D g (md 29) mf' (qx i) (qy i) ((qx i) + 4) ((qy i) + 4) (⟨⟨by omega, by omega⟩, ⟨by omega, by omega⟩, ⟨by omega, by omega⟩, ⟨by omega, by omega⟩⟩)) (va_cwS 5 hts gX5_cover_X5_mark rfl rfl rfl (by decide +kernel) ⟨Nat.le_of_ble_eq_true rfl, Nat.le_of_ble_eq_true rfl⟩) hK hP hD hS hA [12] [0, 1, 2, 3, 4, 5, 6, 7, 8, 9, 10, 11] rfl rfl (by decide) (by decide) (by decide) rfl rfl hl.1 (Nat.le_of_ble_eq_true rfl) dX5_cover_124 ⟨Nat.le_of_ble_eq_true rfl, Nat.le_of_ble_eq_true rfl⟩ (fun u H locs hu hP hD hS => ?_)
          obtain ⟨f2, rfl⟩ : ∃ z9, z9 = u := ⟨_, rfl⟩
          have hu : mkM mf' f2 (qx i) (qy i) ((qx i) + 4) ((qy i) + 4) := hu
          have hf2 := hu
          have hP : va_P D jcl [(hm, .inr (5, [.int (jI co), .int (jI ly), .int (jI nt), .ref (md 3), .int (jI ns), .ref (md 5), .ref (md 6), .ref (md 7), .int (jI nd), .ref (md 9), .ref (md 10), .ref (md 11), .int (jI np), .ref (md 13), .ref (md 14), .ref (md 15), .ref (md 16), .ref (md 17), .ref (md 18), .ref (md 19), .ref (md 20), .int (jI nq), .ref (md 22), .ref (md 23), .ref (md 24), .ref (md 25), .ref (md 26), .int (jI tq), .ref (md 28), .ref (md 29), .ref (md 30)])), ((md 5), .inl (g.1, 200, .inl (aI sn))), ((md 6), .inl (g.1, 200, .inl (aI sl))), ((md 7), .inl (g.1, 800, .inl (aI bo))), ((md 13), .inl (g.1, 60, .inl (aI qn))), ((md 14), .inl (g.1, 60, .inl (aI qs))), ((md 15), .inl (g.1, 60, .inl (aI qx))), ((md 16), .inl (g.1, 60, .inl (aI qy))), ((md 22), .inl (g.1, 1500, .inl (aI rl))), ((md 23), .inl (g.1, 1500, .inl (aI rx))), ((md 24), .inl (g.1, 1500, .inl (aI ry))), ((md 25), .inl (g.1, 1500, .inl (aI rs))), ((md 29), .inl (g.2.1, 16000, .inr (.inl (aW f2))))] H := hP
          have hD : va_D A [(hm, .inr (5, [.int (jI co), .int (jI ly), .int (jI nt), .ref (md 3), .int (jI ns), .ref (md 5), .ref (md 6), .ref (md 7), .int (jI nd), .ref (md 9), .ref (md 10), .ref (md 11), .int (jI np), .ref (md 13), .ref (md 14), .ref (md 15), .ref (md 16), .ref (md 17), .ref (md 18), .ref (md 19), .ref (md 20), .int (jI nq), .ref (md 22), .ref (md 23), .ref (md 24), .ref (md 25), .ref (md 26), .int (jI tq), .ref (md 28), .ref (md 29), .ref (md 30)])), ((md 5), .inl (g.1, 200, .inl (aI sn))), ((md 6), .inl (g.1, 200, .inl (aI sl))), ((md 7), .inl (g.1, 800, .inl (aI bo))), ((md 13), .inl (g.1, 60, .inl (aI qn))), ((md 14), .inl (g.1, 60, .inl (aI qs))), ((md 15), .inl (g.1, 60, .inl (aI qx))), ((md 16), .inl (g.1, 60, .inl (aI qy))), ((md 22), .inl (g.1, 1500, .inl (aI rl))), ((md 23), .inl (g.1, 1500, .inl (aI rx))), ((md 24), .inl (g.1, 1500, .inl (aI ry))), ((md 25), .inl (g.1, 1500, .inl (aI rs))), ((md 29), .inl (g.2.1, 16000, .inr (.inl (aW f2))))] := hD
          refine jv_iinc (lv2 := [(2, .int (jI (i + 1))), (0, .ref hm), (1, .int (jI layer))]) hx hb dX5_cover_127 hl (k := 2) rfl (by decide) rfl (fun ls hl => ?_)
          refine lv_goto (tgt := 80) hx hb dX5_cover_130 (by decide) ?_
          exact ihL80 (i + 1) f2 (by omega) (by rw [flt_s _ hi.1 (map_get (fun d : jD => d.1) hq) (dec_t ⟨by omega, Or.inl rfl⟩), ← List.append_assoc]; exact mkE_s h1 hf2 hok2 e2 e3 (by omega) (by omega)) (by omega) _ _ _ (hP.sub [0, 1, 2, 3, 4, 5, 6, 7, 8, 9, 10, 11, 12] rfl) (hD.sub [0, 1, 2, 3, 4, 5, 6, 7, 8, 9, 10, 11, 12] (by decide) rfl) hS (lv_sub hl [1, 2, 0] rfl)
  have L9 : ∀ (fuel : Nat) (i : Int) (mf' : Int → Int64), (0 ≤ i ∧ i ≤ ns) → (mkE mf' (covL ([] ++ (pre L i).filter (onNL layer (-1))))) → (ns - i < (fuel : Int)) → ∀ (H : Heap) (locs : List Loc) (ls : Array Slot), va_P D jcl [(hm, .inr (5, [.int (jI co), .int (jI ly), .int (jI nt), .ref (md 3), .int (jI ns), .ref (md 5), .ref (md 6), .ref (md 7), .int (jI nd), .ref (md 9), .ref (md 10), .ref (md 11), .int (jI np), .ref (md 13), .ref (md 14), .ref (md 15), .ref (md 16), .ref (md 17), .ref (md 18), .ref (md 19), .ref (md 20), .int (jI nq), .ref (md 22), .ref (md 23), .ref (md 24), .ref (md 25), .ref (md 26), .int (jI tq), .ref (md 28), .ref (md 29), .ref (md 30)])), ((md 5), .inl (g.1, 200, .inl (aI sn))), ((md 6), .inl (g.1, 200, .inl (aI sl))), ((md 7), .inl (g.1, 800, .inl (aI bo))), ((md 13), .inl (g.1, 60, .inl (aI qn))), ((md 14), .inl (g.1, 60, .inl (aI qs))), ((md 15), .inl (g.1, 60, .inl (aI qx))), ((md 16), .inl (g.1, 60, .inl (aI qy))), ((md 22), .inl (g.1, 1500, .inl (aI rl))), ((md 23), .inl (g.1, 1500, .inl (aI rx))), ((md 24), .inl (g.1, 1500, .inl (aI ry))), ((md 25), .inl (g.1, 1500, .inl (aI rs))), ((md 29), .inl (g.2.1, 16000, .inr (.inl (aW mf'))))] H → va_D A [(hm, .inr (5, [.int (jI co), .int (jI ly), .int (jI nt), .ref (md 3), .int (jI ns), .ref (md 5), .ref (md 6), .ref (md 7), .int (jI nd), .ref (md 9), .ref (md 10), .ref (md 11), .int (jI np), .ref (md 13), .ref (md 14), .ref (md 15), .ref (md 16), .ref (md 17), .ref (md 18), .ref (md 19), .ref (md 20), .int (jI nq), .ref (md 22), .ref (md 23), .ref (md 24), .ref (md 25), .ref (md 26), .int (jI tq), .ref (md 28), .ref (md 29), .ref (md 30)])), ((md 5), .inl (g.1, 200, .inl (aI sn))), ((md 6), .inl (g.1, 200, .inl (aI sl))), ((md 7), .inl (g.1, 800, .inl (aI bo))), ((md 13), .inl (g.1, 60, .inl (aI qn))), ((md 14), .inl (g.1, 60, .inl (aI qs))), ((md 15), .inl (g.1, 60, .inl (aI qx))), ((md 16), .inl (g.1, 60, .inl (aI qy))), ((md 22), .inl (g.1, 1500, .inl (aI rl))), ((md 23), .inl (g.1, 1500, .inl (aI rx))), ((md 24), .inl (g.1, 1500, .inl (aI ry))), ((md 25), .inl (g.1, 1500, .inl (aI rs))), ((md 29), .inl (g.2.1, 16000, .inr (.inl (aW mf'))))] → va_S A s.heap H locs → lv_has ls 3 [(0, .ref hm), (1, .int (jI layer)), (2, .int (jI i))] → W p l e (jR 3 120) s m args below meth c H locs 0 0 Q (F0 m 9 ls []) := by
    intro fuel
    induction fuel with
    | zero =>
      intro i mf' hi h1 hfu
      exfalso; omega
    | succ fuel ihL9 =>
      intro i mf' hi h1 hfu H locs ls hP hD hS hl
      refine lv_iload_n hx hb dX5_cover_9 rfl (lv_at hl 2 rfl) ?_
      refine lv_aload_n hx hb dX5_cover_10 rfl (lv_at hl 0 rfl) ?_
      refine va_get (D := D) (ci := 5) (v := .int (jI ns)) (C := RX5) (T := TX5) (N := 31) hx hb hts inX5 hown hK hP 0 rfl rfl 4 (by decide) f102 (fun _ h9 => h9) rfl dX5_cover_11 ?_
      refine jv_icmp_ge (tgt := 78) hx hb ⟨by omega, by omega⟩ ⟨by omega, by omega⟩ dX5_cover_14 (by decide) (fun c14 => ?_) (fun c14 => ?_)
      · skip
        refine jv_iconst hx hb dX5_cover_78 ?_
        refine lv_istore_n (lv' := [(2, .int (jI 0)), (0, .ref hm), (1, .int (jI layer))]) hx hb dX5_cover_79 rfl hl (by decide) rfl (fun ls hl => ?_)
        exact L80 ((np - 0).toNat + 1) 0 mf' (by omega) (by
          rw [pre_0, List.filter_nil, List.append_nil, ← pre_all (L := L) (i := i) (by omega)]; exact h1) (by omega) _ _ _ (hP.sub [0, 1, 2, 3, 4, 5, 6, 7, 8, 9, 10, 11, 12] rfl) (hD.sub [0, 1, 2, 3, 4, 5, 6, 7, 8, 9, 10, 11, 12] (by decide) rfl) hS (lv_sub hl [1, 2, 0] rfl)
      · skip
        obtain ⟨q, hq, e0, e1, e2, e3, e4, e5, hok⟩ := ms_at hms (k := i) ⟨hi.1, by omega⟩
        have hok2 := hok
        unfold okQ at hok
        refine lv_aload_n hx hb dX5_cover_17 rfl (lv_at hl 0 rfl) ?_
        refine va_get (D := D) (ci := 5) (v := .ref (md 6)) (C := RX5) (T := TX5) (N := 31) hx hb hts inX5 hown hK hP 0 rfl rfl 6 (by decide) f17 (fun _ h9 => h9) rfl dX5_cover_18 ?_
        refine lv_iload_n hx hb dX5_cover_21 rfl (lv_at hl 2 rfl) ?_
        refine jv_iald hx hb hK hP 2 0 rfl rfl (i := i) ⟨by omega, by omega⟩ (Nat.le_of_ble_eq_true rfl) dX5_cover_22 ?_
        refine lv_iload_n hx hb dX5_cover_23 rfl (lv_at hl 1 rfl) ?_
        refine jv_icmp_ne (tgt := 72) hx hb ⟨by omega, by omega⟩ ⟨by omega, by omega⟩ dX5_cover_24 (by decide) (fun c24 => ?_) (fun c24 => ?_)
        · skip
          refine jv_iinc (lv2 := [(2, .int (jI (i + 1))), (0, .ref hm), (1, .int (jI layer))]) hx hb dX5_cover_72 hl (k := 2) rfl (by decide) rfl (fun ls hl => ?_)
          refine lv_goto (tgt := 9) hx hb dX5_cover_75 (by decide) ?_
          exact ihL9 (i + 1) mf' (by omega) (by
            first
            | (rw [flt_n _ hi.1 hq (dec_f (by omega))]; exact h1)
            | (rw [flt_s _ hi.1 hq (dec_t ⟨by omega, Or.inl rfl⟩), ← List.append_assoc]; exact mkE_s h1 hf1 hok2 e2 e3 e4 e5)) (by omega) _ _ _ (hP.sub [0, 1, 2, 3, 4, 5, 6, 7, 8, 9, 10, 11, 12] rfl) (hD.sub [0, 1, 2, 3, 4, 5, 6, 7, 8, 9, 10, 11, 12] (by decide) rfl) hS (lv_sub hl [1, 2, 0] rfl)
        · skip
          refine lv_aload_n hx hb dX5_cover_27 rfl (lv_at hl 0 rfl) ?_
          refine va_get (D := D) (ci := 5) (v := .ref (md 29)) (C := RX5) (T := TX5) (N := 31) hx hb hts inX5 hown hK hP 0 rfl rfl 29 (by decide) f74 (fun _ h9 => h9) rfl dX5_cover_28 ?_
          refine lv_aload_n hx hb dX5_cover_31 rfl (lv_at hl 0 rfl) ?_
          refine va_get (D := D) (ci := 5) (v := .ref (md 7)) (C := RX5) (T := TX5) (N := 31) hx hb hts inX5 hown hK hP 0 rfl rfl 7 (by decide) f20 (fun _ h9 => h9) rfl dX5_cover_32 ?_
          refine jv_iconst hx hb dX5_cover_35 ?_
          refine lv_iload_n hx hb dX5_cover_36 rfl (lv_at hl 2 rfl) ?_
          refine jv_imul hx hb dX5_cover_37 ?_
          refine jv_iald hx hb hK hP 3 0 rfl rfl (i := (4 * i)) ⟨by omega, by omega⟩ (Nat.le_of_ble_eq_true rfl) dX5_cover_38 ?_
          refine lv_aload_n hx hb dX5_cover_39 rfl (lv_at hl 0 rfl) ?_
          refine va_get (D := D) (ci := 5) (v := .ref (md 7)) (C := RX5) (T := TX5) (N := 31) hx hb hts inX5 hown hK hP 0 rfl rfl 7 (by decide) f20 (fun _ h9 => h9) rfl dX5_cover_40 ?_
          refine jv_iconst hx hb dX5_cover_43 ?_
          refine lv_iload_n hx hb dX5_cover_44 rfl (lv_at hl 2 rfl) ?_
          refine jv_imul hx hb dX5_cover_45 ?_
          refine jv_iconst hx hb dX5_cover_46 ?_
          refine jv_iadd hx hb dX5_cover_47 ?_
          refine jv_iald hx hb hK hP 3 0 rfl rfl (i := ((4 * i) + 1)) ⟨by omega, by omega⟩ (Nat.le_of_ble_eq_true rfl) dX5_cover_48 ?_
          refine lv_aload_n hx hb dX5_cover_49 rfl (lv_at hl 0 rfl) ?_
          refine va_get (D := D) (ci := 5) (v := .ref (md 7)) (C := RX5) (T := TX5) (N := 31) hx hb hts inX5 hown hK hP 0 rfl rfl 7 (by decide) f20 (fun _ h9 => h9) rfl dX5_cover_50 ?_
          refine jv_iconst hx hb dX5_cover_53 ?_
          refine lv_iload_n hx hb dX5_cover_54 rfl (lv_at hl 2 rfl) ?_
          refine jv_imul hx hb dX5_cover_55 ?_
          refine jv_iconst hx hb dX5_cover_56 ?_
          refine jv_iadd hx hb dX5_cover_57 ?_
          refine jv_iald hx hb hK hP 3 0 rfl rfl (i := ((4 * i) + 2)) ⟨by omega, by omega⟩ (Nat.le_of_ble_eq_true rfl) dX5_cover_58 ?_
          refine lv_aload_n hx hb dX5_cover_59 rfl (lv_at hl 0 rfl) ?_
          refine va_get (D := D) (ci := 5) (v := .ref (md 7)) (C := RX5) (T := TX5) (N := 31) hx hb hts inX5 hown hK hP 0 rfl rfl 7 (by decide) f20 (fun _ h9 => h9) rfl dX5_cover_60 ?_
          refine jv_iconst hx hb dX5_cover_63 ?_
          refine lv_iload_n hx hb dX5_cover_64 rfl (lv_at hl 2 rfl) ?_
          refine jv_imul hx hb dX5_cover_65 ?_
          refine jv_iconst hx hb dX5_cover_66 ?_
          refine jv_iadd hx hb dX5_cover_67 ?_
          refine jv_iald hx hb hK hP 3 0 rfl rfl (i := ((4 * i) + 3)) ⟨by omega, by omega⟩ (Nat.le_of_ble_eq_true rfl) dX5_cover_68 ?_
          refine jc_Sv (As := [.ref (md 29), .int (jI (bo (4 * i))), .int (jI (bo ((4 * i) + 1))), .int (jI (bo ((4 * i) + 2))), .int (jI (bo ((4 * i) + 3)))]) (rest := []) (wq := [(hm, .inr (5, [.int (jI co), .int (jI ly), .int (jI nt), .ref (md 3), .int (jI ns), .ref (md 5), .ref (md 6), .ref (md 7), .int (jI nd), .ref (md 9), .ref (md 10), .ref (md 11), .int (jI np), .ref (md 13), .ref (md 14), .ref (md 15), .ref (md 16), .ref (md 17), .ref (md 18), .ref (md 19), .ref (md 20), .int (jI nq), .ref (md 22), .ref (md 23), .ref (md 24), .ref (md 25), .ref (md 26), .int (jI tq), .ref (md 28), .ref (md 29), .ref (md 30)])), ((md 5), .inl (g.1, 200, .inl (aI sn))), ((md 6), .inl (g.1, 200, .inl (aI sl))), ((md 7), .inl (g.1, 800, .inl (aI bo))), ((md 13), .inl (g.1, 60, .inl (aI qn))), ((md 14), .inl (g.1, 60, .inl (aI qs))), ((md 15), .inl (g.1, 60, .inl (aI qx))), ((md 16), .inl (g.1, 60, .inl (aI qy))), ((md 22), .inl (g.1, 1500, .inl (aI rl))), ((md 23), .inl (g.1, 1500, .inl (aI rx))), ((md 24), .inl (g.1, 1500, .inl (aI ry))), ((md 25), .inl (g.1, 1500, .inl (aI rs)))]) ⟨hx, hb, hml, hown, hts⟩ (tX5_mark l D g (md 29) mf' (bo (4 * i)) (bo ((4 * i) + 1)) (bo ((4 * i) + 2)) (bo ((4 * i) + 3)) (⟨⟨by omega, by omega⟩, ⟨by omega, by omega⟩, ⟨by omega, by omega⟩, ⟨by omega, by omega⟩⟩)) (va_cwS 5 hts gX5_cover_X5_mark rfl rfl rfl (by decide +kernel) ⟨Nat.le_of_ble_eq_true rfl, Nat.le_of_ble_eq_true rfl⟩) hK hP hD hS hA [12] [0, 1, 2, 3, 4, 5, 6, 7, 8, 9, 10, 11] rfl rfl (by decide) (by decide) (by decide) rfl rfl hl.1 (Nat.le_of_ble_eq_true rfl) dX5_cover_69 ⟨Nat.le_of_ble_eq_true rfl, Nat.le_of_ble_eq_true rfl⟩ (fun u H locs hu hP hD hS => ?_)
          obtain ⟨f1, rfl⟩ : ∃ z9, z9 = u := ⟨_, rfl⟩
          have hu : mkM mf' f1 (bo (4 * i)) (bo ((4 * i) + 1)) (bo ((4 * i) + 2)) (bo ((4 * i) + 3)) := hu
          have hf1 := hu
          have hP : va_P D jcl [(hm, .inr (5, [.int (jI co), .int (jI ly), .int (jI nt), .ref (md 3), .int (jI ns), .ref (md 5), .ref (md 6), .ref (md 7), .int (jI nd), .ref (md 9), .ref (md 10), .ref (md 11), .int (jI np), .ref (md 13), .ref (md 14), .ref (md 15), .ref (md 16), .ref (md 17), .ref (md 18), .ref (md 19), .ref (md 20), .int (jI nq), .ref (md 22), .ref (md 23), .ref (md 24), .ref (md 25), .ref (md 26), .int (jI tq), .ref (md 28), .ref (md 29), .ref (md 30)])), ((md 5), .inl (g.1, 200, .inl (aI sn))), ((md 6), .inl (g.1, 200, .inl (aI sl))), ((md 7), .inl (g.1, 800, .inl (aI bo))), ((md 13), .inl (g.1, 60, .inl (aI qn))), ((md 14), .inl (g.1, 60, .inl (aI qs))), ((md 15), .inl (g.1, 60, .inl (aI qx))), ((md 16), .inl (g.1, 60, .inl (aI qy))), ((md 22), .inl (g.1, 1500, .inl (aI rl))), ((md 23), .inl (g.1, 1500, .inl (aI rx))), ((md 24), .inl (g.1, 1500, .inl (aI ry))), ((md 25), .inl (g.1, 1500, .inl (aI rs))), ((md 29), .inl (g.2.1, 16000, .inr (.inl (aW f1))))] H := hP
          have hD : va_D A [(hm, .inr (5, [.int (jI co), .int (jI ly), .int (jI nt), .ref (md 3), .int (jI ns), .ref (md 5), .ref (md 6), .ref (md 7), .int (jI nd), .ref (md 9), .ref (md 10), .ref (md 11), .int (jI np), .ref (md 13), .ref (md 14), .ref (md 15), .ref (md 16), .ref (md 17), .ref (md 18), .ref (md 19), .ref (md 20), .int (jI nq), .ref (md 22), .ref (md 23), .ref (md 24), .ref (md 25), .ref (md 26), .int (jI tq), .ref (md 28), .ref (md 29), .ref (md 30)])), ((md 5), .inl (g.1, 200, .inl (aI sn))), ((md 6), .inl (g.1, 200, .inl (aI sl))), ((md 7), .inl (g.1, 800, .inl (aI bo))), ((md 13), .inl (g.1, 60, .inl (aI qn))), ((md 14), .inl (g.1, 60, .inl (aI qs))), ((md 15), .inl (g.1, 60, .inl (aI qx))), ((md 16), .inl (g.1, 60, .inl (aI qy))), ((md 22), .inl (g.1, 1500, .inl (aI rl))), ((md 23), .inl (g.1, 1500, .inl (aI rx))), ((md 24), .inl (g.1, 1500, .inl (aI ry))), ((md 25), .inl (g.1, 1500, .inl (aI rs))), ((md 29), .inl (g.2.1, 16000, .inr (.inl (aW f1))))] := hD
          refine jv_iinc (lv2 := [(2, .int (jI (i + 1))), (0, .ref hm), (1, .int (jI layer))]) hx hb dX5_cover_72 hl (k := 2) rfl (by decide) rfl (fun ls hl => ?_)
          refine lv_goto (tgt := 9) hx hb dX5_cover_75 (by decide) ?_
          exact ihL9 (i + 1) f1 (by omega) (by
            first
            | (rw [flt_n _ hi.1 hq (dec_f (by omega))]; exact h1)
            | (rw [flt_s _ hi.1 hq (dec_t ⟨by omega, Or.inl rfl⟩), ← List.append_assoc]; exact mkE_s h1 hf1 hok2 e2 e3 e4 e5)) (by omega) _ _ _ (hP.sub [0, 1, 2, 3, 4, 5, 6, 7, 8, 9, 10, 11, 12] rfl) (hD.sub [0, 1, 2, 3, 4, 5, 6, 7, 8, 9, 10, 11, 12] (by decide) rfl) hS (lv_sub hl [1, 2, 0] rfl)
  refine lv_aload_n hx hb dX5_cover_0 rfl (lv_at hl 0 rfl) ?_
  refine va_get (D := D) (ci := 5) (v := .ref (md 29)) (C := RX5) (T := TX5) (N := 31) hx hb hts inX5 hown hK hP 0 rfl rfl 29 (by decide) f74 (fun _ h9 => h9) rfl dX5_cover_1 ?_
  refine jc_Sv (As := [.ref (md 29)]) (rest := []) (wq := [(hm, .inr (5, [.int (jI co), .int (jI ly), .int (jI nt), .ref (md 3), .int (jI ns), .ref (md 5), .ref (md 6), .ref (md 7), .int (jI nd), .ref (md 9), .ref (md 10), .ref (md 11), .int (jI np), .ref (md 13), .ref (md 14), .ref (md 15), .ref (md 16), .ref (md 17), .ref (md 18), .ref (md 19), .ref (md 20), .int (jI nq), .ref (md 22), .ref (md 23), .ref (md 24), .ref (md 25), .ref (md 26), .int (jI tq), .ref (md 28), .ref (md 29), .ref (md 30)])), ((md 5), .inl (g.1, 200, .inl (aI sn))), ((md 6), .inl (g.1, 200, .inl (aI sl))), ((md 7), .inl (g.1, 800, .inl (aI bo))), ((md 13), .inl (g.1, 60, .inl (aI qn))), ((md 14), .inl (g.1, 60, .inl (aI qs))), ((md 15), .inl (g.1, 60, .inl (aI qx))), ((md 16), .inl (g.1, 60, .inl (aI qy))), ((md 22), .inl (g.1, 1500, .inl (aI rl))), ((md 23), .inl (g.1, 1500, .inl (aI rx))), ((md 24), .inl (g.1, 1500, .inl (aI ry))), ((md 25), .inl (g.1, 1500, .inl (aI rs)))]) ⟨hx, hb, hml, hown, hts⟩ (tX5_clear l D g (md 29) mf ) (va_cwS 1 hts gX5_cover_X5_clear rfl rfl rfl (by decide +kernel) ⟨Nat.le_of_ble_eq_true rfl, Nat.le_of_ble_eq_true rfl⟩) hK hP hD hS hA [12] [0, 1, 2, 3, 4, 5, 6, 7, 8, 9, 10, 11] rfl rfl (by decide) (by decide) (by decide) rfl rfl hl.1 (Nat.le_of_ble_eq_true rfl) dX5_cover_4 ⟨Nat.le_of_ble_eq_true rfl, Nat.le_of_ble_eq_true rfl⟩ (fun u H locs hu hP hD hS => ?_)
  obtain ⟨f0, rfl⟩ : ∃ z9, z9 = u := ⟨_, rfl⟩
  have hu : mk0 f0 := hu
  have hcl := hu
  have hP : va_P D jcl [(hm, .inr (5, [.int (jI co), .int (jI ly), .int (jI nt), .ref (md 3), .int (jI ns), .ref (md 5), .ref (md 6), .ref (md 7), .int (jI nd), .ref (md 9), .ref (md 10), .ref (md 11), .int (jI np), .ref (md 13), .ref (md 14), .ref (md 15), .ref (md 16), .ref (md 17), .ref (md 18), .ref (md 19), .ref (md 20), .int (jI nq), .ref (md 22), .ref (md 23), .ref (md 24), .ref (md 25), .ref (md 26), .int (jI tq), .ref (md 28), .ref (md 29), .ref (md 30)])), ((md 5), .inl (g.1, 200, .inl (aI sn))), ((md 6), .inl (g.1, 200, .inl (aI sl))), ((md 7), .inl (g.1, 800, .inl (aI bo))), ((md 13), .inl (g.1, 60, .inl (aI qn))), ((md 14), .inl (g.1, 60, .inl (aI qs))), ((md 15), .inl (g.1, 60, .inl (aI qx))), ((md 16), .inl (g.1, 60, .inl (aI qy))), ((md 22), .inl (g.1, 1500, .inl (aI rl))), ((md 23), .inl (g.1, 1500, .inl (aI rx))), ((md 24), .inl (g.1, 1500, .inl (aI ry))), ((md 25), .inl (g.1, 1500, .inl (aI rs))), ((md 29), .inl (g.2.1, 16000, .inr (.inl (aW f0))))] H := hP
  have hD : va_D A [(hm, .inr (5, [.int (jI co), .int (jI ly), .int (jI nt), .ref (md 3), .int (jI ns), .ref (md 5), .ref (md 6), .ref (md 7), .int (jI nd), .ref (md 9), .ref (md 10), .ref (md 11), .int (jI np), .ref (md 13), .ref (md 14), .ref (md 15), .ref (md 16), .ref (md 17), .ref (md 18), .ref (md 19), .ref (md 20), .int (jI nq), .ref (md 22), .ref (md 23), .ref (md 24), .ref (md 25), .ref (md 26), .int (jI tq), .ref (md 28), .ref (md 29), .ref (md 30)])), ((md 5), .inl (g.1, 200, .inl (aI sn))), ((md 6), .inl (g.1, 200, .inl (aI sl))), ((md 7), .inl (g.1, 800, .inl (aI bo))), ((md 13), .inl (g.1, 60, .inl (aI qn))), ((md 14), .inl (g.1, 60, .inl (aI qs))), ((md 15), .inl (g.1, 60, .inl (aI qx))), ((md 16), .inl (g.1, 60, .inl (aI qy))), ((md 22), .inl (g.1, 1500, .inl (aI rl))), ((md 23), .inl (g.1, 1500, .inl (aI rx))), ((md 24), .inl (g.1, 1500, .inl (aI ry))), ((md 25), .inl (g.1, 1500, .inl (aI rs))), ((md 29), .inl (g.2.1, 16000, .inr (.inl (aW f0))))] := hD
  refine jv_iconst hx hb dX5_cover_7 ?_
  refine lv_istore_n (lv' := [(2, .int (jI 0)), (0, .ref hm), (1, .int (jI layer))]) hx hb dX5_cover_8 rfl hl (by decide) rfl (fun ls hl => ?_)
  exact L9 ((ns - 0).toNat + 1) 0 f0 (by omega) (by rw [pre_0]; exact mkE_0 hcl) (by omega) _ _ _ (hP.sub [0, 1, 2, 3, 4, 5, 6, 7, 8, 9, 10, 11, 12] rfl) (hD.sub [0, 1, 2, 3, 4, 5, 6, 7, 8, 9, 10, 11, 12] (by decide) rfl) hS (lv_sub hl [1, 2, 0] rfl)

set_option maxHeartbeats 4000000 in
set_option maxRecDepth 100000 in
/-- common -/
theorem tX5_common (l : Launch) (D : va_G) (g : ClassId × ClassId × ClassId) (u : Int) (lw : Int) (hu : 0 ≤ u ∧ u ≤ 1125899906842624) (hlw : 0 < lw ∧ lw ≤ 1125899906842624) : jMl l D g yX5_common wsX5_common 1 31 [.long (jL u), .long (jL lw)] [] (S := Unit) (fun z _ => z = jL (Int.gcd u lw : Int)) (fun _ => []) := by
  refine jMl_of (cc := cX5_common) (maxL := 10) (by decide) rfl (Nat.le_of_ble_eq_true rfl) ?_
  intro p e s m args below meth c Q A hx hb hml hts hown hK hA hret ls hl hP hD
  have hS : va_S A s.heap s.heap [] := va_S.rf
  have hown : s.vm.findClass RX5 = some m.cls := hown
  have hl : lv_has ls 10 [(0, .long (jL u)), (2, .long (jL lw))] := hl
  have L6 : ∀ (fuel : Nat) (a : Int) (b : Int) (k : Int), (gst u lw a b k) → (k ≤ 102) → ((202 : Int) - k < (fuel : Int)) → ∀ (H : Heap) (locs : List Loc) (ls : Array Slot), va_P D jcl [] H → va_D A [] → va_S A s.heap H locs → lv_has ls 10 [(4, .long (jL a)), (6, .long (jL b))] → W p l e (jR 1 31) s m args below meth c H locs 0 0 Q (F0 m 6 ls []) := by
    intro fuel
    induction fuel with
    | zero =>
      intro a b k hg hk9 hfu
      exfalso; omega
    | succ fuel ihL6 =>
      intro a b k hg hk9 hfu H locs ls hP hD hS hl
      have hg0 := hg
      unfold gst at hg0
      refine lv_lload hx hb dX5_common_6 (lv_at hl 1 rfl) ?_
      refine jv_lconst0 hx hb dX5_common_8 ?_
      refine jv_lcmp_eq (tgt := 31) hx hb ⟨by omega, by omega⟩ ⟨by decide, by decide⟩ dX5_common_9 dX5_common_10 (by decide) (fun c9 => ?_) (fun c9 => ?_)
      · skip
        subst c9
        have hend := gst_e hg
        refine lv_lload hx hb dX5_common_31 (lv_at hl 0 rfl) ?_
        exact hret (jL a) () _ _ _ _ (by rw [hend.1]) (hP.sub [] rfl) (hD.sub [] (by decide) rfl) hS dX5_common_33
      · skip
        have hk2 := gst_k hg c9
        refine lv_lload hx hb dX5_common_13 (lv_at hl 0 rfl) ?_
        refine lv_lload hx hb dX5_common_15 (lv_at hl 1 rfl) ?_
        refine jv_lremN hx hb ⟨by omega, by omega, by omega⟩ ⟨by omega, by omega, by omega⟩ dX5_common_17 ?_
        refine jv_nmL (fun x_1 ex_1 => ?_)
        refine lv_lstore (lv' := [(8, .long (jL x_1)), (4, .long (jL a)), (6, .long (jL b))]) hx hb dX5_common_18 hl (by decide) rfl (fun ls hl => ?_)
        refine lv_lload hx hb dX5_common_20 (lv_at hl 2 rfl) ?_
        refine lv_lstore (lv' := [(4, .long (jL b)), (8, .long (jL x_1)), (6, .long (jL b))]) hx hb dX5_common_22 hl (by decide) rfl (fun ls hl => ?_)
        refine lv_lload hx hb dX5_common_24 (lv_at hl 1 rfl) ?_
        refine lv_lstore (lv' := [(6, .long (jL x_1)), (4, .long (jL b)), (8, .long (jL x_1))]) hx hb dX5_common_26 hl (by decide) rfl (fun ls hl => ?_)
        refine lv_goto (tgt := 6) hx hb dX5_common_28 (by decide) ?_
        exact ihL6 b x_1 (k + 1) (by rw [ex_1]; exact gst_s hg c9) (by have := gst_k hg c9; omega) (by omega) _ _ _ (hP.sub [] rfl) (hD.sub [] (by decide) rfl) hS (lv_sub hl [1, 0] rfl)
  refine lv_lload_n hx hb dX5_common_0 rfl (lv_at hl 0 rfl) ?_
  refine lv_lstore (lv' := [(4, .long (jL u)), (0, .long (jL u)), (2, .long (jL lw))]) hx hb dX5_common_1 hl (by decide) rfl (fun ls hl => ?_)
  refine lv_lload_n hx hb dX5_common_3 rfl (lv_at hl 2 rfl) ?_
  refine lv_lstore (lv' := [(6, .long (jL lw)), (4, .long (jL u)), (0, .long (jL u)), (2, .long (jL lw))]) hx hb dX5_common_4 hl (by decide) rfl (fun ls hl => ?_)
  exact L6 (((202 : Int) - 0).toNat + 1) u lw 0 (gst_0 hu ⟨by omega, by omega⟩) (by omega) (by omega) _ _ _ (hP.sub [] rfl) (hD.sub [] (by decide) rfl) hS (lv_sub hl [1, 0] rfl)

set_option maxHeartbeats 4000000 in
set_option maxRecDepth 100000 in
/-- part -/
theorem tX5_part (l : Launch) (D : va_G) (g : ClassId × ClassId × ClassId) (up : Int) (lw : Int) (part : Int) (hu : 0 ≤ up ∧ up ≤ 1125899906842624) (hlw : 0 < lw ∧ lw ≤ 1125899906842624) (hpart : rI part) : jMl l D g yX5_part wsX5_part 2 60 [.long (jL up), .long (jL lw), .int (jI part)] [] (S := Unit) (fun z _ => z = jL (lowt up lw part)) (fun _ => []) := by
  refine jMl_of (cc := cX5_part) (maxL := 7) (by decide) rfl (Nat.le_of_ble_eq_true rfl) ?_
  intro p e s m args below meth c Q A hx hb hml hts hown hK hA hret ls hl hP hD
  have hS : va_S A s.heap s.heap [] := va_S.rf
  have hown : s.vm.findClass RX5 = some m.cls := hown
  have hl : lv_has ls 7 [(0, .long (jL up)), (2, .long (jL lw)), (4, .int (jI part))] := hl
  refine lv_lload_n hx hb dX5_part_0 rfl (lv_at hl 0 rfl) ?_
  refine lv_lload_n hx hb dX5_part_1 rfl (lv_at hl 1 rfl) ?_
  refine jc_Sl (As := [.long (jL up), .long (jL lw)]) (rest := []) (wq := []) ⟨hx, hb, hml, hown, hts⟩ (tX5_common l D g up lw (hu) (hlw)) (va_cwS 2 hts gX5_part_X5_common rfl rfl rfl (by decide +kernel) ⟨Nat.le_of_ble_eq_true rfl, Nat.le_of_ble_eq_true rfl⟩) hK hP hD hS hA [] [] rfl rfl (by decide) (by decide) (by decide) rfl rfl hl.1 (Nat.le_of_ble_eq_true rfl) dX5_part_2 ⟨Nat.le_of_ble_eq_true rfl, Nat.le_of_ble_eq_true rfl⟩ (fun z9 u H locs hu hP hD hS => ?_)
  have hu : z9 = jL (Int.gcd up lw : Int) := hu
  have hz9 := hu
  have hP : va_P D jcl [] H := hP
  have hD : va_D A [] := hD
  subst hz9
  have hgp : 0 < (Int.gcd up lw : Int) ∧ (Int.gcd up lw : Int) ≤ 1125899906842624 := by
    have h1 : 0 < Int.gcd up lw := Int.gcd_pos_of_ne_zero_right _ (by omega)
    have h2 : (Int.gcd up lw : Int) ≤ lw := Int.le_of_dvd hlw.1 (Int.gcd_dvd_right ..)
    omega
  refine lv_lstore (lv' := [(5, .long (jL (Int.gcd up lw : Int))), (0, .long (jL up)), (2, .long (jL lw)), (4, .int (jI part))]) hx hb dX5_part_5 hl (by decide) rfl (fun ls hl => ?_)
  refine lv_iload hx hb dX5_part_7 (lv_at hl 3 rfl) ?_
  refine jv_if_ne (tgt := 19) hx hb ⟨by omega, by omega⟩ dX5_part_9 (by decide) (fun c9 => ?_) (fun c9 => ?_)
  · skip
    refine lv_lload_n hx hb dX5_part_19 rfl (lv_at hl 2 rfl) ?_
    refine lv_lload hx hb dX5_part_20 (lv_at hl 0 rfl) ?_
    refine jv_ldivN hx hb ⟨by omega, by omega, by omega⟩ ⟨by omega, by omega, by omega⟩ dX5_part_22 ?_
    exact hret (jL (lw / (Int.gcd up lw : Int))) () _ _ _ _ (by unfold lowt; first | rw [if_pos c9] | rw [if_neg c9]) (hP.sub [] rfl) (hD.sub [] (by decide) rfl) hS dX5_part_23
  · skip
    refine lv_lload_n hx hb dX5_part_12 rfl (lv_at hl 1 rfl) ?_
    refine lv_lload hx hb dX5_part_13 (lv_at hl 0 rfl) ?_
    refine jv_ldivN hx hb ⟨by omega, by omega, by omega⟩ ⟨by omega, by omega, by omega⟩ dX5_part_15 ?_
    refine lv_goto (tgt := 23) hx hb dX5_part_16 (by decide) ?_
    exact hret (jL (up / (Int.gcd up lw : Int))) () _ _ _ _ (by unfold lowt; first | rw [if_pos c9] | rw [if_neg c9]) (hP.sub [] rfl) (hD.sub [] (by decide) rfl) hS dX5_part_23
