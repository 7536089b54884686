set_option maxHeartbeats 4000000 in
set_option maxRecDepth 100000 in
/-- slotAt -/
theorem tX5_slotAt (l : Launch) (D : va_G) (g : ClassId × ClassId × ClassId) (hm : Nat) (md : Nat → Nat) (co : Int) (ly : Int) (nt : Int) (ns : Int) (nd : Int) (np : Int) (nq : Int) (tq : Int) (sn : Int → Int) (sl : Int → Int) (bo : Int → Int) (L : List jQ) (layer : Int) (v9 : Int) (k9 : Int) (sd : Int) (hms : msI sn sl bo ns L) (hns : ns ≤ 200) (hly : 1 ≤ ly ∧ ly ≤ 64) (hri : rI layer ∧ rL v9 ∧ rI k9 ∧ rI sd) : jMi l D g yX5_slotAt wsX5_slotAt 3 80 [.ref hm, .int (jI layer), .long (jL v9), .int (jI k9), .int (jI sd)] [(hm, .inr (5, [.int (jI co), .int (jI ly), .int (jI nt), .ref (md 3), .int (jI ns), .ref (md 5), .ref (md 6), .ref (md 7), .int (jI nd), .ref (md 9), .ref (md 10), .ref (md 11), .int (jI np), .ref (md 13), .ref (md 14), .ref (md 15), .ref (md 16), .ref (md 17), .ref (md 18), .ref (md 19), .ref (md 20), .int (jI nq), .ref (md 22), .ref (md 23), .ref (md 24), .ref (md 25), .ref (md 26), .int (jI tq), .ref (md 28), .ref (md 29), .ref (md 30)])), ((md 5), .inl (g.1, 200, .inl (aI sn))), ((md 6), .inl (g.1, 200, .inl (aI sl))), ((md 7), .inl (g.1, 800, .inl (aI bo)))] (S := Int) (fun z u => (u = 1 ∧ ¬ ((0 ≤ layer ∧ layer < ly) ∧ (0 ≤ sd ∧ sd < 4))) ∨ (u = 2 ∧ ((0 ≤ layer ∧ layer < ly) ∧ (0 ≤ sd ∧ sd < 4)) ∧ ¬ (1 ≤ v9 ∧ v9 ≤ 400)) ∨ (u = 0 ∧ ((0 ≤ layer ∧ layer < ly) ∧ (0 ≤ sd ∧ sd < 4)) ∧ (1 ≤ v9 ∧ v9 ≤ 400) ∧ z = slAt v9 sd (L.filter (onL layer)) k9)) (fun u => [(hm, .inr (5, [.int (jI u), .int (jI ly), .int (jI nt), .ref (md 3), .int (jI ns), .ref (md 5), .ref (md 6), .ref (md 7), .int (jI nd), .ref (md 9), .ref (md 10), .ref (md 11), .int (jI np), .ref (md 13), .ref (md 14), .ref (md 15), .ref (md 16), .ref (md 17), .ref (md 18), .ref (md 19), .ref (md 20), .int (jI nq), .ref (md 22), .ref (md 23), .ref (md 24), .ref (md 25), .ref (md 26), .int (jI tq), .ref (md 28), .ref (md 29), .ref (md 30)])), ((md 5), .inl (g.1, 200, .inl (aI sn))), ((md 6), .inl (g.1, 200, .inl (aI sl))), ((md 7), .inl (g.1, 800, .inl (aI bo)))]) := by
  refine jMi_of (cc := cX5_slotAt) (maxL := 13) (by decide) rfl (Nat.le_of_ble_eq_true rfl) ?_
  intro p e s m args below meth c Q A hx hb hml hts hown hK hA hret ls hl hP hD
  have hS : va_S A s.heap s.heap [] := va_S.rf
  have hown : s.vm.findClass RX5 = some m.cls := hown
  have f17 := hts (.fieldLink RX5 17 "AntennaFillModel" "shapeLayer" "[I") (by decide +kernel)
  have f20 := hts (.fieldLink RX5 20 "AntennaFillModel" "box" "[I") (by decide +kernel)
  have f84 := hts (.fieldLink RX5 84 "AntennaFillModel" "code" "I") (by decide +kernel)
  have f102 := hts (.fieldLink RX5 102 "AntennaFillModel" "shapes" "I") (by decide +kernel)
  have inX5 : ∀ w ∈ wsX50, w ∈ wsX5_slotAt := by decide +kernel
  have k219 := hts (.constantLong RX5 219 (400)) (by decide +kernel)
  have hl : lv_has ls 13 [(0, .ref hm), (1, .int (jI layer)), (2, .long (jL v9)), (4, .int (jI k9)), (5, .int (jI sd))] := hl
  have hlen := hms.1
  have JC : ∀ (cv9 : Int), ((cv9 = 1 ∧ ¬ ((0 ≤ layer ∧ layer < ly) ∧ (0 ≤ sd ∧ sd < 4))) ∨ (cv9 = 2 ∧ ((0 ≤ layer ∧ layer < ly) ∧ (0 ≤ sd ∧ sd < 4)) ∧ ¬ (1 ≤ v9 ∧ v9 ≤ 400)) ∨ (cv9 = 0 ∧ ((0 ≤ layer ∧ layer < ly) ∧ (0 ≤ sd ∧ sd < 4)) ∧ (1 ≤ v9 ∧ v9 ≤ 400))) → ∀ (H : Heap) (locs : List Loc) (ls : Array Slot), va_P D jcl [(hm, .inr (5, [.int (jI co), .int (jI ly), .int (jI nt), .ref (md 3), .int (jI ns), .ref (md 5), .ref (md 6), .ref (md 7), .int (jI nd), .ref (md 9), .ref (md 10), .ref (md 11), .int (jI np), .ref (md 13), .ref (md 14), .ref (md 15), .ref (md 16), .ref (md 17), .ref (md 18), .ref (md 19), .ref (md 20), .int (jI nq), .ref (md 22), .ref (md 23), .ref (md 24), .ref (md 25), .ref (md 26), .int (jI tq), .ref (md 28), .ref (md 29), .ref (md 30)])), ((md 5), .inl (g.1, 200, .inl (aI sn))), ((md 6), .inl (g.1, 200, .inl (aI sl))), ((md 7), .inl (g.1, 800, .inl (aI bo)))] H → va_D A [(hm, .inr (5, [.int (jI co), .int (jI ly), .int (jI nt), .ref (md 3), .int (jI ns), .ref (md 5), .ref (md 6), .ref (md 7), .int (jI nd), .ref (md 9), .ref (md 10), .ref (md 11), .int (jI np), .ref (md 13), .ref (md 14), .ref (md 15), .ref (md 16), .ref (md 17), .ref (md 18), .ref (md 19), .ref (md 20), .int (jI nq), .ref (md 22), .ref (md 23), .ref (md 24), .ref (md 25), .ref (md 26), .int (jI tq), .ref (md 28), .ref (md 29), .ref (md 30)])), ((md 5), .inl (g.1, 200, .inl (aI sn))), ((md 6), .inl (g.1, 200, .inl (aI sl))), ((md 7), .inl (g.1, 800, .inl (aI bo)))] → va_S A s.heap H locs → lv_has ls 13 [(0, .ref hm), (1, .int (jI layer)), (2, .long (jL v9)), (4, .int (jI k9)), (5, .int (jI sd))] → W p l e (jR 3 80) s m args below meth c H locs 0 0 Q (F0 m 43 ls [.int (jI cv9), .ref hm]) := by
    intro cv9 hcv H locs ls hP hD hS hl
    have LS : ∀ (fuel : Nat) (i : Int) (lf : Int), (0 ≤ i ∧ i ≤ ns) → (-2147483648 ≤ lf ∧ lf ≤ 2147483647 ∧ (0 ≤ k9 → 0 ≤ lf)) → (slAt v9 sd (L.filter (onL layer)) k9 = slAt v9 sd ((L.drop (Int.toNat i)).filter (onL layer)) lf) → (ns + 1 - i < (fuel : Int)) → ∀ (H : Heap) (locs : List Loc) (ls : Array Slot), va_P D jcl [(hm, .inr (5, [.int (jI cv9), .int (jI ly), .int (jI nt), .ref (md 3), .int (jI ns), .ref (md 5), .ref (md 6), .ref (md 7), .int (jI nd), .ref (md 9), .ref (md 10), .ref (md 11), .int (jI np), .ref (md 13), .ref (md 14), .ref (md 15), .ref (md 16), .ref (md 17), .ref (md 18), .ref (md 19), .ref (md 20), .int (jI nq), .ref (md 22), .ref (md 23), .ref (md 24), .ref (md 25), .ref (md 26), .int (jI tq), .ref (md 28), .ref (md 29), .ref (md 30)])), ((md 5), .inl (g.1, 200, .inl (aI sn))), ((md 6), .inl (g.1, 200, .inl (aI sl))), ((md 7), .inl (g.1, 800, .inl (aI bo)))] H → va_D A [(hm, .inr (5, [.int (jI cv9), .int (jI ly), .int (jI nt), .ref (md 3), .int (jI ns), .ref (md 5), .ref (md 6), .ref (md 7), .int (jI nd), .ref (md 9), .ref (md 10), .ref (md 11), .int (jI np), .ref (md 13), .ref (md 14), .ref (md 15), .ref (md 16), .ref (md 17), .ref (md 18), .ref (md 19), .ref (md 20), .int (jI nq), .ref (md 22), .ref (md 23), .ref (md 24), .ref (md 25), .ref (md 26), .int (jI tq), .ref (md 28), .ref (md 29), .ref (md 30)])), ((md 5), .inl (g.1, 200, .inl (aI sn))), ((md 6), .inl (g.1, 200, .inl (aI sl))), ((md 7), .inl (g.1, 800, .inl (aI bo)))] → va_S A s.heap H locs → lv_has ls 13 [(0, .ref hm), (1, .int (jI layer)), (2, .long (jL v9)), (4, .int (jI k9)), (5, .int (jI sd)), (6, .int (jI v9)), (7, .int (jI lf)), (8, .int (jI i))] → W p l e (jR 3 80) s m args below meth c H locs 0 0 Q (F0 m 57 ls []) := by
      intro fuel
      induction fuel with
      | zero =>
        intro i lf hi hlf hs hfu
        exfalso; omega
      | succ fuel ihLS =>
        intro i lf hi hlf hs hfu H locs ls hP hD hS hl
        refine lv_iload hx hb dX5_slotAt_57 (lv_at hl 7 rfl) ?_
        refine lv_aload_n hx hb dX5_slotAt_59 rfl (lv_at hl 0 rfl) ?_
        refine va_get (D := D) (ci := 5) (v := .int (jI ns)) (C := RX5) (T := TX5) (N := 31) hx hb hts inX5 hown hK hP 0 rfl rfl 4 (by decide) f102 (fun _ h9 => h9) rfl dX5_slotAt_60 ?_
        refine jv_icmp_ge (tgt := 348) hx hb ⟨by omega, by omega⟩ ⟨by omega, by omega⟩ dX5_slotAt_63 (by decide) (fun c63 => ?_) (fun c63 => ?_)
        · skip
          refine lv_aload_n hx hb dX5_slotAt_348 rfl (lv_at hl 0 rfl) ?_
          refine va_get (D := D) (ci := 5) (v := .int (jI cv9)) (C := RX5) (T := TX5) (N := 31) hx hb hts inX5 hown hK hP 0 rfl rfl 0 (by decide) f84 (fun _ h9 => h9) rfl dX5_slotAt_349 ?_
          refine jv_if_le (tgt := 359) hx hb ⟨by omega, by omega⟩ dX5_slotAt_352 (by decide) (fun c352 => ?_) (fun c352 => ?_)
          · skip
            refine jv_iconst hx hb dX5_slotAt_359 ?_
            exact hret (-1) cv9 _ _ _ _ (by
              have hz9 : -1 = slAt v9 sd (L.filter (onL layer)) k9 := by
                first
                | (rw [hs, drop_all (by omega)]; rfl)
                | (rw [slAt_neg (by omega)])
              first
              | exact Or.inr (Or.inr ⟨hc0, ⟨hol, hos⟩, how, hz9⟩)
              | (rcases hcv with q9 | q9 | q9
                 · exact absurd q9.1 (by omega)
                 · exact absurd q9.1 (by omega)
                 · exact Or.inr (Or.inr ⟨q9.1, q9.2.1, q9.2.2, hz9⟩))) (hP.sub [0, 1, 2, 3] rfl) (hD.sub [0, 1, 2, 3] (by decide) rfl) hS dX5_slotAt_360
          · skip
            refine jv_iconst hx hb dX5_slotAt_355 ?_
            refine lv_goto (tgt := 360) hx hb dX5_slotAt_356 (by decide) ?_
            exact hret 0 cv9 _ _ _ _ (by
              first
              | exact absurd hc0 (by omega)
              | (rcases hcv with q9 | q9 | q9
                 · exact Or.inl q9
                 · exact Or.inr (Or.inl q9)
                 · exact absurd q9.1 (by omega))) (hP.sub [0, 1, 2, 3] rfl) (hD.sub [0, 1, 2, 3] (by decide) rfl) hS dX5_slotAt_360
        · skip
          refine lv_aload_n hx hb dX5_slotAt_66 rfl (lv_at hl 0 rfl) ?_
          refine va_get (D := D) (ci := 5) (v := .int (jI cv9)) (C := RX5) (T := TX5) (N := 31) hx hb hts inX5 hown hK hP 0 rfl rfl 0 (by decide) f84 (fun _ h9 => h9) rfl dX5_slotAt_67 ?_
          refine jv_if_ne (tgt := 348) hx hb ⟨by omega, by omega⟩ dX5_slotAt_70 (by decide) (fun c70 => ?_) (fun c70 => ?_)
          · skip
            refine lv_aload_n hx hb dX5_slotAt_348 rfl (lv_at hl 0 rfl) ?_
            refine va_get (D := D) (ci := 5) (v := .int (jI cv9)) (C := RX5) (T := TX5) (N := 31) hx hb hts inX5 hown hK hP 0 rfl rfl 0 (by decide) f84 (fun _ h9 => h9) rfl dX5_slotAt_349 ?_
            refine jv_if_le (tgt := 359) hx hb ⟨by omega, by omega⟩ dX5_slotAt_352 (by decide) (fun c352 => ?_) (fun c352 => ?_)
            · skip
              refine jv_iconst hx hb dX5_slotAt_359 ?_
              exact hret (-1) cv9 _ _ _ _ (by
                have hz9 : -1 = slAt v9 sd (L.filter (onL layer)) k9 := by
                  first
                  | (rw [hs, drop_all (by omega)]; rfl)
                  | (rw [slAt_neg (by omega)])
                first
                | exact Or.inr (Or.inr ⟨hc0, ⟨hol, hos⟩, how, hz9⟩)
                | (rcases hcv with q9 | q9 | q9
                   · exact absurd q9.1 (by omega)
                   · exact absurd q9.1 (by omega)
                   · exact Or.inr (Or.inr ⟨q9.1, q9.2.1, q9.2.2, hz9⟩))) (hP.sub [0, 1, 2, 3] rfl) (hD.sub [0, 1, 2, 3] (by decide) rfl) hS dX5_slotAt_360
            · skip
              refine jv_iconst hx hb dX5_slotAt_355 ?_
              refine lv_goto (tgt := 360) hx hb dX5_slotAt_356 (by decide) ?_
              exact hret 0 cv9 _ _ _ _ (by
                first
                | exact absurd hc0 (by omega)
                | (rcases hcv with q9 | q9 | q9
                   · exact Or.inl q9
                   · exact Or.inr (Or.inl q9)
                   · exact absurd q9.1 (by omega))) (hP.sub [0, 1, 2, 3] rfl) (hD.sub [0, 1, 2, 3] (by decide) rfl) hS dX5_slotAt_360
          · skip
            have hok9 : cv9 = 0 ∧ ((0 ≤ layer ∧ layer < ly) ∧ (0 ≤ sd ∧ sd < 4)) ∧ (1 ≤ v9 ∧ v9 ≤ 400) := hcv.elim (fun q9 => absurd q9.1 (by omega)) (fun q9 => q9.elim (fun q9 => absurd q9.1 (by omega)) (fun q9 => q9))
            clear hcv
            obtain ⟨hc0, ⟨hol, hos⟩, how⟩ := hok9
            refine lv_iload hx hb dX5_slotAt_73 (lv_at hl 3 rfl) ?_
            refine jv_if_lt (tgt := 348) hx hb ⟨by omega, by omega⟩ dX5_slotAt_75 (by decide) (fun c75 => ?_) (fun c75 => ?_)
            · skip
              refine lv_aload_n hx hb dX5_slotAt_348 rfl (lv_at hl 0 rfl) ?_
              refine va_get (D := D) (ci := 5) (v := .int (jI cv9)) (C := RX5) (T := TX5) (N := 31) hx hb hts inX5 hown hK hP 0 rfl rfl 0 (by decide) f84 (fun _ h9 => h9) rfl dX5_slotAt_349 ?_
              refine jv_if_le (tgt := 359) hx hb ⟨by omega, by omega⟩ dX5_slotAt_352 (by decide) (fun c352 => ?_) (fun c352 => ?_)
              · skip
                refine jv_iconst hx hb dX5_slotAt_359 ?_
                exact hret (-1) cv9 _ _ _ _ (by
                  have hz9 : -1 = slAt v9 sd (L.filter (onL layer)) k9 := by
                    first
                    | (rw [hs, drop_all (by omega)]; rfl)
                    | (rw [slAt_neg (by omega)])
                  first
                  | exact Or.inr (Or.inr ⟨hc0, ⟨hol, hos⟩, how, hz9⟩)
                  | (rcases hcv with q9 | q9 | q9
                     · exact absurd q9.1 (by omega)
                     · exact absurd q9.1 (by omega)
                     · exact Or.inr (Or.inr ⟨q9.1, q9.2.1, q9.2.2, hz9⟩))) (hP.sub [0, 1, 2, 3] rfl) (hD.sub [0, 1, 2, 3] (by decide) rfl) hS dX5_slotAt_360
              · skip
                refine jv_iconst hx hb dX5_slotAt_355 ?_
                refine lv_goto (tgt := 360) hx hb dX5_slotAt_356 (by decide) ?_
                exact hret 0 cv9 _ _ _ _ (by
                  first
                  | exact absurd hc0 (by omega)
                  | (rcases hcv with q9 | q9 | q9
                     · exact Or.inl q9
                     · exact Or.inr (Or.inl q9)
                     · exact absurd q9.1 (by omega))) (hP.sub [0, 1, 2, 3] rfl) (hD.sub [0, 1, 2, 3] (by decide) rfl) hS dX5_slotAt_360
            · skip
              obtain ⟨q, hq, e0, e1, e2, e3, e4, e5, hok⟩ := ms_at hms (k := i) ⟨hi.1, by omega⟩
              have hok2 := hok
              unfold okQ at hok
              refine lv_aload_n hx hb dX5_slotAt_78 rfl (lv_at hl 0 rfl) ?_
              refine va_get (D := D) (ci := 5) (v := .ref (md 6)) (C := RX5) (T := TX5) (N := 31) hx hb hts inX5 hown hK hP 0 rfl rfl 6 (by decide) f17 (fun _ h9 => h9) rfl dX5_slotAt_79 ?_
              refine lv_iload hx hb dX5_slotAt_82 (lv_at hl 7 rfl) ?_
              refine jv_iald hx hb hK hP 2 0 rfl rfl (i := i) ⟨by omega, by omega⟩ (Nat.le_of_ble_eq_true rfl) dX5_slotAt_84 ?_
              refine lv_iload_n hx hb dX5_slotAt_85 rfl (lv_at hl 1 rfl) ?_
              refine jv_icmp_ne (tgt := 100) hx hb ⟨by omega, by omega⟩ ⟨by omega, by omega⟩ dX5_slotAt_86 (by decide) (fun c86 => ?_) (fun c86 => ?_)
              · skip
                refine jv_iconst hx hb dX5_slotAt_100 ?_
                refine lv_istore (lv' := [(9, .int (jI 0)), (0, .ref hm), (1, .int (jI layer)), (2, .long (jL v9)), (4, .int (jI k9)), (5, .int (jI sd)), (6, .int (jI v9)), (7, .int (jI lf)), (8, .int (jI i))]) hx hb dX5_slotAt_101 hl (by decide) rfl (fun ls hl => ?_)
                refine lv_iload hx hb dX5_slotAt_103 (lv_at hl 7 rfl) ?_
                refine lv_iload hx hb dX5_slotAt_105 (lv_at hl 0 rfl) ?_
                refine jv_icmp_ge (tgt := 335) hx hb ⟨by omega, by omega⟩ ⟨by decide, by decide⟩ dX5_slotAt_107 (by decide) (fun c107 => ?_) (fun c107 => ?_)
                · skip
                  refine lv_iload hx hb dX5_slotAt_335 (lv_at hl 7 rfl) ?_
                  refine lv_iload hx hb dX5_slotAt_337 (lv_at hl 0 rfl) ?_
                  refine jv_isub hx hb dX5_slotAt_339 ?_
                  refine lv_istore (lv' := [(7, .int (jI (lf - 0))), (9, .int (jI 0)), (0, .ref hm), (1, .int (jI layer)), (2, .long (jL v9)), (4, .int (jI k9)), (5, .int (jI sd)), (6, .int (jI v9)), (8, .int (jI i))]) hx hb dX5_slotAt_340 hl (by decide) rfl (fun ls hl => ?_)
                  refine jv_iinc (lv2 := [(8, .int (jI (i + 1))), (7, .int (jI (lf - 0))), (9, .int (jI 0)), (0, .ref hm), (1, .int (jI layer)), (2, .long (jL v9)), (4, .int (jI k9)), (5, .int (jI sd)), (6, .int (jI v9))]) hx hb dX5_slotAt_342 hl (k := 8) rfl (by decide) rfl (fun ls hl => ?_)
                  refine lv_goto (tgt := 57) hx hb dX5_slotAt_345 (by decide) ?_
                  exact ihLS (i + 1) (lf - 0) (by omega) (by omega) (by first | (rw [hs, slAt_n hi.1 hq (by omega), Int.sub_zero]) | (rw [hs, slAt_s hi.1 hq (by omega) (by omega) (by omega), ← hsn])) (by omega) _ _ _ (hP.sub [0, 1, 2, 3] rfl) (hD.sub [0, 1, 2, 3] (by decide) rfl) hS (lv_sub hl [3, 4, 5, 6, 7, 8, 1, 0] rfl)
                · skip
                  have hkb := (slN_bd hok2 how.1).2.2 lf (by omega) (by omega)
                  have hk0 : 0 ≤ lf * (v9 + 2) := Int.mul_nonneg (by omega) (by omega)
                  refine lv_aload_n hx hb dX5_slotAt_110 rfl (lv_at hl 1 rfl) ?_
                  refine va_get (D := D) (ci := 5) (v := .ref (md 7)) (C := RX5) (T := TX5) (N := 31) hx hb hts inX5 hown hK hP 0 rfl rfl 7 (by decide) f20 (fun _ h9 => h9) rfl dX5_slotAt_111 ?_
                  refine jv_iconst hx hb dX5_slotAt_114 ?_
                  refine lv_iload hx hb dX5_slotAt_115 (lv_at hl 8 rfl) ?_
                  refine jv_imul hx hb dX5_slotAt_117 ?_
                  refine jv_iconst hx hb dX5_slotAt_118 ?_
                  refine jv_iadd hx hb dX5_slotAt_119 ?_
                  refine jv_iald hx hb hK hP 3 0 rfl rfl (i := ((4 * i) + 2)) ⟨by omega, by omega⟩ (Nat.le_of_ble_eq_true rfl) dX5_slotAt_120 ?_
                  refine lv_aload_n hx hb dX5_slotAt_121 rfl (lv_at hl 1 rfl) ?_
                  refine va_get (D := D) (ci := 5) (v := .ref (md 7)) (C := RX5) (T := TX5) (N := 31) hx hb hts inX5 hown hK hP 0 rfl rfl 7 (by decide) f20 (fun _ h9 => h9) rfl dX5_slotAt_122 ?_
                  refine jv_iconst hx hb dX5_slotAt_125 ?_
                  refine lv_iload hx hb dX5_slotAt_126 (lv_at hl 8 rfl) ?_
                  refine jv_imul hx hb dX5_slotAt_128 ?_
                  refine jv_iald hx hb hK hP 3 0 rfl rfl (i := (4 * i)) ⟨by omega, by omega⟩ (Nat.le_of_ble_eq_true rfl) dX5_slotAt_129 ?_
                  refine jv_isub hx hb dX5_slotAt_130 ?_
                  refine lv_aload_n hx hb dX5_slotAt_131 rfl (lv_at hl 1 rfl) ?_
                  refine va_get (D := D) (ci := 5) (v := .ref (md 7)) (C := RX5) (T := TX5) (N := 31) hx hb hts inX5 hown hK hP 0 rfl rfl 7 (by decide) f20 (fun _ h9 => h9) rfl dX5_slotAt_132 ?_
                  refine jv_iconst hx hb dX5_slotAt_135 ?_
                  refine lv_iload hx hb dX5_slotAt_136 (lv_at hl 8 rfl) ?_
                  refine jv_imul hx hb dX5_slotAt_138 ?_
                  refine jv_iconst hx hb dX5_slotAt_139 ?_
                  refine jv_iadd hx hb dX5_slotAt_140 ?_
                  refine jv_iald hx hb hK hP 3 0 rfl rfl (i := ((4 * i) + 3)) ⟨by omega, by omega⟩ (Nat.le_of_ble_eq_true rfl) dX5_slotAt_141 ?_
                  refine lv_aload_n hx hb dX5_slotAt_142 rfl (lv_at hl 1 rfl) ?_
                  refine va_get (D := D) (ci := 5) (v := .ref (md 7)) (C := RX5) (T := TX5) (N := 31) hx hb hts inX5 hown hK hP 0 rfl rfl 7 (by decide) f20 (fun _ h9 => h9) rfl dX5_slotAt_143 ?_
                  refine jv_iconst hx hb dX5_slotAt_146 ?_
                  refine lv_iload hx hb dX5_slotAt_147 (lv_at hl 8 rfl) ?_
                  refine jv_imul hx hb dX5_slotAt_149 ?_
                  refine jv_iconst hx hb dX5_slotAt_150 ?_
                  refine jv_iadd hx hb dX5_slotAt_151 ?_
                  refine jv_iald hx hb hK hP 3 0 rfl rfl (i := ((4 * i) + 1)) ⟨by omega, by omega⟩ (Nat.le_of_ble_eq_true rfl) dX5_slotAt_152 ?_
                  refine jv_isub hx hb dX5_slotAt_153 ?_
                  refine jv_icmp_lt (tgt := 161) hx hb ⟨by omega, by omega⟩ ⟨by omega, by omega⟩ dX5_slotAt_154 (by decide) (fun c154 => ?_) (fun c154 => ?_)
                  · skip
                    refine jv_iconst hx hb dX5_slotAt_161 ?_
                    refine lv_istore (lv' := [(10, .int (jI 0)), (9, .int (jI 0)), (0, .ref hm), (1, .int (jI layer)), (2, .long (jL v9)), (4, .int (jI k9)), (5, .int (jI sd)), (6, .int (jI v9)), (7, .int (jI lf)), (8, .int (jI i))]) hx hb dX5_slotAt_162 hl (by decide) rfl (fun ls hl => ?_)
                    refine lv_iload hx hb dX5_slotAt_164 (lv_at hl 7 rfl) ?_
                    refine lv_iload hx hb dX5_slotAt_166 (lv_at hl 8 rfl) ?_
                    refine lv_iload hx hb dX5_slotAt_168 (lv_at hl 7 rfl) ?_
                    refine jv_iconst hx hb dX5_slotAt_170 ?_
                    refine jv_iadd hx hb dX5_slotAt_171 ?_
                    refine jv_imul hx hb dX5_slotAt_172 ?_
                    refine jv_iadd hx hb dX5_slotAt_173 ?_
                    refine lv_istore (lv' := [(11, .int (jI (v9 + (lf * (v9 + 2))))), (10, .int (jI 0)), (9, .int (jI 0)), (0, .ref hm), (1, .int (jI layer)), (2, .long (jL v9)), (4, .int (jI k9)), (5, .int (jI sd)), (6, .int (jI v9)), (7, .int (jI lf)), (8, .int (jI i))]) hx hb dX5_slotAt_174 hl (by decide) rfl (fun ls hl => ?_)
                    refine jv_iconst hx hb dX5_slotAt_176 ?_
                    refine lv_iload hx hb dX5_slotAt_177 (lv_at hl 10 rfl) ?_
                    refine jv_imul hx hb dX5_slotAt_179 ?_
                    refine lv_istore (lv' := [(12, .int (jI (4 * i))), (11, .int (jI (v9 + (lf * (v9 + 2))))), (10, .int (jI 0)), (9, .int (jI 0)), (0, .ref hm), (1, .int (jI layer)), (2, .long (jL v9)), (4, .int (jI k9)), (5, .int (jI sd)), (6, .int (jI v9)), (7, .int (jI lf)), (8, .int (jI i))]) hx hb dX5_slotAt_180 hl (by decide) rfl (fun ls hl => ?_)
                    refine lv_iload hx hb dX5_slotAt_182 (lv_at hl 2 rfl) ?_
                    refine jv_if_eq (tgt := 262) hx hb ⟨by decide, by decide⟩ dX5_slotAt_184 (by decide) (fun c184 => ?_) (fun c184 => ?_)
                    · skip
                      refine lv_iload hx hb dX5_slotAt_262 (lv_at hl 8 rfl) ?_
                      refine jv_iconst hx hb dX5_slotAt_264 ?_
                      refine jv_icmp_ne (tgt := 283) hx hb ⟨by omega, by omega⟩ ⟨by decide, by decide⟩ dX5_slotAt_265 (by decide) (fun c265 => ?_) (fun c265 => ?_)
                      · skip
                        refine lv_iload hx hb dX5_slotAt_283 (lv_at hl 8 rfl) ?_
                        refine jv_iconst hx hb dX5_slotAt_285 ?_
                        refine jv_icmp_ne (tgt := 304) hx hb ⟨by omega, by omega⟩ ⟨by decide, by decide⟩ dX5_slotAt_286 (by decide) (fun c286 => ?_) (fun c286 => ?_)
                        · skip
                          refine lv_iload hx hb dX5_slotAt_304 (lv_at hl 8 rfl) ?_
                          refine jv_if_ne (tgt := 322) hx hb ⟨by omega, by omega⟩ dX5_slotAt_306 (by decide) (fun c306 => ?_) (fun c306 => ?_)
                          · skip
                            refine lv_aload_n hx hb dX5_slotAt_322 rfl (lv_at hl 4 rfl) ?_
                            refine va_get (D := D) (ci := 5) (v := .ref (md 7)) (C := RX5) (T := TX5) (N := 31) hx hb hts inX5 hown hK hP 0 rfl rfl 7 (by decide) f20 (fun _ h9 => h9) rfl dX5_slotAt_323 ?_
                            refine lv_iload hx hb dX5_slotAt_326 (lv_at hl 0 rfl) ?_
                            refine jv_iald hx hb hK hP 3 0 rfl rfl (i := (4 * i)) ⟨by omega, by omega⟩ (Nat.le_of_ble_eq_true rfl) dX5_slotAt_328 ?_
                            refine lv_iload hx hb dX5_slotAt_329 (lv_at hl 1 rfl) ?_
                            refine jv_iadd hx hb dX5_slotAt_331 ?_
                            refine jv_iconst hx hb dX5_slotAt_332 ?_
                            refine jv_iadd hx hb dX5_slotAt_333 ?_
                            exact hret (((bo (4 * i)) + (v9 + (lf * (v9 + 2)))) + 2) cv9 _ _ _ _ (by
                              have hsn2 : lf < slN q v9 := by omega
                              have hkb := (slN_bd hok2 how.1).2.2 lf (by omega) hsn2
                              have hz9 := slAt_h (sd := sd) hi.1 hq (show q.2.1 = layer by omega) (by omega) hsn2
                              refine Or.inr (Or.inr ⟨hc0, ⟨hol, hos⟩, how, ?_⟩)
                              rw [hs, hz9]
                              unfold slS
                              first
                              | (rw [if_neg (by omega)]; rw [if_pos (by omega)]; omega)
                              | (rw [if_neg (by omega)]; rw [if_neg (by omega), if_pos (by omega)]; omega)
                              | (rw [if_neg (by omega)]; rw [if_neg (by omega), if_neg (by omega), if_pos (by omega)]; omega)
                              | (rw [if_neg (by omega)]; rw [if_neg (by omega), if_neg (by omega), if_neg (by omega)]; omega)) (hP.sub [0, 1, 2, 3] rfl) (hD.sub [0, 1, 2, 3] (by decide) rfl) hS dX5_slotAt_334
                          · skip
                            refine lv_aload_n hx hb dX5_slotAt_309 rfl (lv_at hl 4 rfl) ?_
                            refine va_get (D := D) (ci := 5) (v := .ref (md 7)) (C := RX5) (T := TX5) (N := 31) hx hb hts inX5 hown hK hP 0 rfl rfl 7 (by decide) f20 (fun _ h9 => h9) rfl dX5_slotAt_310 ?_
                            refine lv_iload hx hb dX5_slotAt_313 (lv_at hl 0 rfl) ?_
                            refine jv_iald hx hb hK hP 3 0 rfl rfl (i := (4 * i)) ⟨by omega, by omega⟩ (Nat.le_of_ble_eq_true rfl) dX5_slotAt_315 ?_
                            refine lv_iload hx hb dX5_slotAt_316 (lv_at hl 1 rfl) ?_
                            refine jv_iadd hx hb dX5_slotAt_318 ?_
                            refine lv_goto (tgt := 334) hx hb dX5_slotAt_319 (by decide) ?_
                            exact hret ((bo (4 * i)) + (v9 + (lf * (v9 + 2)))) cv9 _ _ _ _ (by
                              have hsn2 : lf < slN q v9 := by omega
                              have hkb := (slN_bd hok2 how.1).2.2 lf (by omega) hsn2
                              have hz9 := slAt_h (sd := sd) hi.1 hq (show q.2.1 = layer by omega) (by omega) hsn2
                              refine Or.inr (Or.inr ⟨hc0, ⟨hol, hos⟩, how, ?_⟩)
                              rw [hs, hz9]
                              unfold slS
                              first
                              | (rw [if_neg (by omega)]; rw [if_pos (by omega)]; omega)
                              | (rw [if_neg (by omega)]; rw [if_neg (by omega), if_pos (by omega)]; omega)
                              | (rw [if_neg (by omega)]; rw [if_neg (by omega), if_neg (by omega), if_pos (by omega)]; omega)
                              | (rw [if_neg (by omega)]; rw [if_neg (by omega), if_neg (by omega), if_neg (by omega)]; omega)) (hP.sub [0, 1, 2, 3] rfl) (hD.sub [0, 1, 2, 3] (by decide) rfl) hS dX5_slotAt_334
                        · skip
                          refine lv_aload_n hx hb dX5_slotAt_289 rfl (lv_at hl 4 rfl) ?_
                          refine va_get (D := D) (ci := 5) (v := .ref (md 7)) (C := RX5) (T := TX5) (N := 31) hx hb hts inX5 hown hK hP 0 rfl rfl 7 (by decide) f20 (fun _ h9 => h9) rfl dX5_slotAt_290 ?_
                          refine lv_iload hx hb dX5_slotAt_293 (lv_at hl 0 rfl) ?_
                          refine jv_iconst hx hb dX5_slotAt_295 ?_
                          refine jv_iadd hx hb dX5_slotAt_296 ?_
                          refine jv_iald hx hb hK hP 3 0 rfl rfl (i := ((4 * i) + 3)) ⟨by omega, by omega⟩ (Nat.le_of_ble_eq_true rfl) dX5_slotAt_297 ?_
                          refine lv_iload hx hb dX5_slotAt_298 (lv_at hl 9 rfl) ?_
                          refine jv_isub hx hb dX5_slotAt_300 ?_
                          refine lv_goto (tgt := 334) hx hb dX5_slotAt_301 (by decide) ?_
                          exact hret ((bo ((4 * i) + 3)) - v9) cv9 _ _ _ _ (by
                            have hsn2 : lf < slN q v9 := by omega
                            have hkb := (slN_bd hok2 how.1).2.2 lf (by omega) hsn2
                            have hz9 := slAt_h (sd := sd) hi.1 hq (show q.2.1 = layer by omega) (by omega) hsn2
                            refine Or.inr (Or.inr ⟨hc0, ⟨hol, hos⟩, how, ?_⟩)
                            rw [hs, hz9]
                            unfold slS
                            first
                            | (rw [if_neg (by omega)]; rw [if_pos (by omega)]; omega)
                            | (rw [if_neg (by omega)]; rw [if_neg (by omega), if_pos (by omega)]; omega)
                            | (rw [if_neg (by omega)]; rw [if_neg (by omega), if_neg (by omega), if_pos (by omega)]; omega)
                            | (rw [if_neg (by omega)]; rw [if_neg (by omega), if_neg (by omega), if_neg (by omega)]; omega)) (hP.sub [0, 1, 2, 3] rfl) (hD.sub [0, 1, 2, 3] (by decide) rfl) hS dX5_slotAt_334
                      · skip
                        refine lv_aload_n hx hb dX5_slotAt_268 rfl (lv_at hl 4 rfl) ?_
                        refine va_get (D := D) (ci := 5) (v := .ref (md 7)) (C := RX5) (T := TX5) (N := 31) hx hb hts inX5 hown hK hP 0 rfl rfl 7 (by decide) f20 (fun _ h9 => h9) rfl dX5_slotAt_269 ?_
                        refine lv_iload hx hb dX5_slotAt_272 (lv_at hl 0 rfl) ?_
                        refine jv_iconst hx hb dX5_slotAt_274 ?_
                        refine jv_iadd hx hb dX5_slotAt_275 ?_
                        refine jv_iald hx hb hK hP 3 0 rfl rfl (i := ((4 * i) + 1)) ⟨by omega, by omega⟩ (Nat.le_of_ble_eq_true rfl) dX5_slotAt_276 ?_
                        refine lv_iload hx hb dX5_slotAt_277 (lv_at hl 9 rfl) ?_
                        refine jv_iadd hx hb dX5_slotAt_279 ?_
                        refine lv_goto (tgt := 334) hx hb dX5_slotAt_280 (by decide) ?_
                        exact hret ((bo ((4 * i) + 1)) + v9) cv9 _ _ _ _ (by
                          have hsn2 : lf < slN q v9 := by omega
                          have hkb := (slN_bd hok2 how.1).2.2 lf (by omega) hsn2
                          have hz9 := slAt_h (sd := sd) hi.1 hq (show q.2.1 = layer by omega) (by omega) hsn2
                          refine Or.inr (Or.inr ⟨hc0, ⟨hol, hos⟩, how, ?_⟩)
                          rw [hs, hz9]
                          unfold slS
                          first
                          | (rw [if_neg (by omega)]; rw [if_pos (by omega)]; omega)
                          | (rw [if_neg (by omega)]; rw [if_neg (by omega), if_pos (by omega)]; omega)
                          | (rw [if_neg (by omega)]; rw [if_neg (by omega), if_neg (by omega), if_pos (by omega)]; omega)
                          | (rw [if_neg (by omega)]; rw [if_neg (by omega), if_neg (by omega), if_neg (by omega)]; omega)) (hP.sub [0, 1, 2, 3] rfl) (hD.sub [0, 1, 2, 3] (by decide) rfl) hS dX5_slotAt_334
                    · skip
                      refine lv_iload hx hb dX5_slotAt_187 (lv_at hl 8 rfl) ?_
                      refine jv_if_ne (tgt := 205) hx hb ⟨by omega, by omega⟩ dX5_slotAt_189 (by decide) (fun c189 => ?_) (fun c189 => ?_)
                      · skip
                        refine lv_iload hx hb dX5_slotAt_205 (lv_at hl 8 rfl) ?_
                        refine jv_iconst hx hb dX5_slotAt_207 ?_
                        refine jv_icmp_ne (tgt := 226) hx hb ⟨by omega, by omega⟩ ⟨by decide, by decide⟩ dX5_slotAt_208 (by decide) (fun c208 => ?_) (fun c208 => ?_)
                        · skip
                          refine lv_iload hx hb dX5_slotAt_226 (lv_at hl 8 rfl) ?_
                          refine jv_iconst hx hb dX5_slotAt_228 ?_
                          refine jv_icmp_ne (tgt := 247) hx hb ⟨by omega, by omega⟩ ⟨by decide, by decide⟩ dX5_slotAt_229 (by decide) (fun c229 => ?_) (fun c229 => ?_)
                          · skip
                            refine lv_aload_n hx hb dX5_slotAt_247 rfl (lv_at hl 4 rfl) ?_
                            refine va_get (D := D) (ci := 5) (v := .ref (md 7)) (C := RX5) (T := TX5) (N := 31) hx hb hts inX5 hown hK hP 0 rfl rfl 7 (by decide) f20 (fun _ h9 => h9) rfl dX5_slotAt_248 ?_
                            refine lv_iload hx hb dX5_slotAt_251 (lv_at hl 0 rfl) ?_
                            refine jv_iconst hx hb dX5_slotAt_253 ?_
                            refine jv_iadd hx hb dX5_slotAt_254 ?_
                            refine jv_iald hx hb hK hP 3 0 rfl rfl (i := ((4 * i) + 1)) ⟨by omega, by omega⟩ (Nat.le_of_ble_eq_true rfl) dX5_slotAt_255 ?_
                            refine lv_iload hx hb dX5_slotAt_256 (lv_at hl 1 rfl) ?_
                            refine jv_iadd hx hb dX5_slotAt_258 ?_
                            refine jv_iconst hx hb dX5_slotAt_259 ?_
                            refine jv_iadd hx hb dX5_slotAt_260 ?_
                            exact hret (((bo ((4 * i) + 1)) + (v9 + (lf * (v9 + 2)))) + 2) cv9 _ _ _ _ (by
                              have hsn2 : lf < slN q v9 := by omega
                              have hkb := (slN_bd hok2 how.1).2.2 lf (by omega) hsn2
                              have hz9 := slAt_h (sd := sd) hi.1 hq (show q.2.1 = layer by omega) (by omega) hsn2
                              refine Or.inr (Or.inr ⟨hc0, ⟨hol, hos⟩, how, ?_⟩)
                              rw [hs, hz9]
                              unfold slS
                              first
                              | (rw [if_pos (by omega)]; rw [if_pos (by omega)]; omega)
                              | (rw [if_pos (by omega)]; rw [if_neg (by omega), if_pos (by omega)]; omega)
                              | (rw [if_pos (by omega)]; rw [if_neg (by omega), if_neg (by omega), if_pos (by omega)]; omega)
                              | (rw [if_pos (by omega)]; rw [if_neg (by omega), if_neg (by omega), if_neg (by omega)]; omega)) (hP.sub [0, 1, 2, 3] rfl) (hD.sub [0, 1, 2, 3] (by decide) rfl) hS dX5_slotAt_261
                          · skip
                            refine lv_aload_n hx hb dX5_slotAt_232 rfl (lv_at hl 4 rfl) ?_
                            refine va_get (D := D) (ci := 5) (v := .ref (md 7)) (C := RX5) (T := TX5) (N := 31) hx hb hts inX5 hown hK hP 0 rfl rfl 7 (by decide) f20 (fun _ h9 => h9) rfl dX5_slotAt_233 ?_
                            refine lv_iload hx hb dX5_slotAt_236 (lv_at hl 0 rfl) ?_
                            refine jv_iconst hx hb dX5_slotAt_238 ?_
                            refine jv_iadd hx hb dX5_slotAt_239 ?_
                            refine jv_iald hx hb hK hP 3 0 rfl rfl (i := ((4 * i) + 1)) ⟨by omega, by omega⟩ (Nat.le_of_ble_eq_true rfl) dX5_slotAt_240 ?_
                            refine lv_iload hx hb dX5_slotAt_241 (lv_at hl 1 rfl) ?_
                            refine jv_iadd hx hb dX5_slotAt_243 ?_
                            refine lv_goto (tgt := 261) hx hb dX5_slotAt_244 (by decide) ?_
                            exact hret ((bo ((4 * i) + 1)) + (v9 + (lf * (v9 + 2)))) cv9 _ _ _ _ (by
                              have hsn2 : lf < slN q v9 := by omega
                              have hkb := (slN_bd hok2 how.1).2.2 lf (by omega) hsn2
                              have hz9 := slAt_h (sd := sd) hi.1 hq (show q.2.1 = layer by omega) (by omega) hsn2
                              refine Or.inr (Or.inr ⟨hc0, ⟨hol, hos⟩, how, ?_⟩)
                              rw [hs, hz9]
                              unfold slS
                              first
                              | (rw [if_pos (by omega)]; rw [if_pos (by omega)]; omega)
                              | (rw [if_pos (by omega)]; rw [if_neg (by omega), if_pos (by omega)]; omega)
                              | (rw [if_pos (by omega)]; rw [if_neg (by omega), if_neg (by omega), if_pos (by omega)]; omega)
                              | (rw [if_pos (by omega)]; rw [if_neg (by omega), if_neg (by omega), if_neg (by omega)]; omega)) (hP.sub [0, 1, 2, 3] rfl) (hD.sub [0, 1, 2, 3] (by decide) rfl) hS dX5_slotAt_261
                        · skip
                          refine lv_aload_n hx hb dX5_slotAt_211 rfl (lv_at hl 4 rfl) ?_
                          refine va_get (D := D) (ci := 5) (v := .ref (md 7)) (C := RX5) (T := TX5) (N := 31) hx hb hts inX5 hown hK hP 0 rfl rfl 7 (by decide) f20 (fun _ h9 => h9) rfl dX5_slotAt_212 ?_
                          refine lv_iload hx hb dX5_slotAt_215 (lv_at hl 0 rfl) ?_
                          refine jv_iconst hx hb dX5_slotAt_217 ?_
                          refine jv_iadd hx hb dX5_slotAt_218 ?_
                          refine jv_iald hx hb hK hP 3 0 rfl rfl (i := ((4 * i) + 2)) ⟨by omega, by omega⟩ (Nat.le_of_ble_eq_true rfl) dX5_slotAt_219 ?_
                          refine lv_iload hx hb dX5_slotAt_220 (lv_at hl 9 rfl) ?_
                          refine jv_isub hx hb dX5_slotAt_222 ?_
                          refine lv_goto (tgt := 261) hx hb dX5_slotAt_223 (by decide) ?_
                          exact hret ((bo ((4 * i) + 2)) - v9) cv9 _ _ _ _ (by
                            have hsn2 : lf < slN q v9 := by omega
                            have hkb := (slN_bd hok2 how.1).2.2 lf (by omega) hsn2
                            have hz9 := slAt_h (sd := sd) hi.1 hq (show q.2.1 = layer by omega) (by omega) hsn2
                            refine Or.inr (Or.inr ⟨hc0, ⟨hol, hos⟩, how, ?_⟩)
                            rw [hs, hz9]
                            unfold slS
                            first
                            | (rw [if_pos (by omega)]; rw [if_pos (by omega)]; omega)
                            | (rw [if_pos (by omega)]; rw [if_neg (by omega), if_pos (by omega)]; omega)
                            | (rw [if_pos (by omega)]; rw [if_neg (by omega), if_neg (by omega), if_pos (by omega)]; omega)
                            | (rw [if_pos (by omega)]; rw [if_neg (by omega), if_neg (by omega), if_neg (by omega)]; omega)) (hP.sub [0, 1, 2, 3] rfl) (hD.sub [0, 1, 2, 3] (by decide) rfl) hS dX5_slotAt_261
                      · skip
                        refine lv_aload_n hx hb dX5_slotAt_192 rfl (lv_at hl 4 rfl) ?_
                        refine va_get (D := D) (ci := 5) (v := .ref (md 7)) (C := RX5) (T := TX5) (N := 31) hx hb hts inX5 hown hK hP 0 rfl rfl 7 (by decide) f20 (fun _ h9 => h9) rfl dX5_slotAt_193 ?_
                        refine lv_iload hx hb dX5_slotAt_196 (lv_at hl 0 rfl) ?_
                        refine jv_iald hx hb hK hP 3 0 rfl rfl (i := (4 * i)) ⟨by omega, by omega⟩ (Nat.le_of_ble_eq_true rfl) dX5_slotAt_198 ?_
                        refine lv_iload hx hb dX5_slotAt_199 (lv_at hl 9 rfl) ?_
                        refine jv_iadd hx hb dX5_slotAt_201 ?_
                        refine lv_goto (tgt := 261) hx hb dX5_slotAt_202 (by decide) ?_
                        exact hret ((bo (4 * i)) + v9) cv9 _ _ _ _ (by
                          have hsn2 : lf < slN q v9 := by omega
                          have hkb := (slN_bd hok2 how.1).2.2 lf (by omega) hsn2
                          have hz9 := slAt_h (sd := sd) hi.1 hq (show q.2.1 = layer by omega) (by omega) hsn2
                          refine Or.inr (Or.inr ⟨hc0, ⟨hol, hos⟩, how, ?_⟩)
                          rw [hs, hz9]
                          unfold slS
                          first
                          | (rw [if_pos (by omega)]; rw [if_pos (by omega)]; omega)
                          | (rw [if_pos (by omega)]; rw [if_neg (by omega), if_pos (by omega)]; omega)
                          | (rw [if_pos (by omega)]; rw [if_neg (by omega), if_neg (by omega), if_pos (by omega)]; omega)
                          | (rw [if_pos (by omega)]; rw [if_neg (by omega), if_neg (by omega), if_neg (by omega)]; omega)) (hP.sub [0, 1, 2, 3] rfl) (hD.sub [0, 1, 2, 3] (by decide) rfl) hS dX5_slotAt_261
                  · skip
                    refine jv_iconst hx hb dX5_slotAt_157 ?_
                    refine lv_goto (tgt := 162) hx hb dX5_slotAt_158 (by decide) ?_
                    refine lv_istore (lv' := [(10, .int (jI 1)), (9, .int (jI 0)), (0, .ref hm), (1, .int (jI layer)), (2, .long (jL v9)), (4, .int (jI k9)), (5, .int (jI sd)), (6, .int (jI v9)), (7, .int (jI lf)), (8, .int (jI i))]) hx hb dX5_slotAt_162 hl (by decide) rfl (fun ls hl => ?_)
                    refine lv_iload hx hb dX5_slotAt_164 (lv_at hl 7 rfl) ?_
                    refine lv_iload hx hb dX5_slotAt_166 (lv_at hl 8 rfl) ?_
                    refine lv_iload hx hb dX5_slotAt_168 (lv_at hl 7 rfl) ?_
                    refine jv_iconst hx hb dX5_slotAt_170 ?_
                    refine jv_iadd hx hb dX5_slotAt_171 ?_
                    refine jv_imul hx hb dX5_slotAt_172 ?_
                    refine jv_iadd hx hb dX5_slotAt_173 ?_
                    refine lv_istore (lv' := [(11, .int (jI (v9 + (lf * (v9 + 2))))), (10, .int (jI 1)), (9, .int (jI 0)), (0, .ref hm), (1, .int (jI layer)), (2, .long (jL v9)), (4, .int (jI k9)), (5, .int (jI sd)), (6, .int (jI v9)), (7, .int (jI lf)), (8, .int (jI i))]) hx hb dX5_slotAt_174 hl (by decide) rfl (fun ls hl => ?_)
                    refine jv_iconst hx hb dX5_slotAt_176 ?_
                    refine lv_iload hx hb dX5_slotAt_177 (lv_at hl 10 rfl) ?_
                    refine jv_imul hx hb dX5_slotAt_179 ?_
                    refine lv_istore (lv' := [(12, .int (jI (4 * i))), (11, .int (jI (v9 + (lf * (v9 + 2))))), (10, .int (jI 1)), (9, .int (jI 0)), (0, .ref hm), (1, .int (jI layer)), (2, .long (jL v9)), (4, .int (jI k9)), (5, .int (jI sd)), (6, .int (jI v9)), (7, .int (jI lf)), (8, .int (jI i))]) hx hb dX5_slotAt_180 hl (by decide) rfl (fun ls hl => ?_)
                    refine lv_iload hx hb dX5_slotAt_182 (lv_at hl 2 rfl) ?_
                    refine jv_if_eq (tgt := 262) hx hb ⟨by decide, by decide⟩ dX5_slotAt_184 (by decide) (fun c184 => ?_) (fun c184 => ?_)
                    · skip
                      refine lv_iload hx hb dX5_slotAt_262 (lv_at hl 8 rfl) ?_
                      refine jv_iconst hx hb dX5_slotAt_264 ?_
                      refine jv_icmp_ne (tgt := 283) hx hb ⟨by omega, by omega⟩ ⟨by decide, by decide⟩ dX5_slotAt_265 (by decide) (fun c265 => ?_) (fun c265 => ?_)
                      · skip
                        refine lv_iload hx hb dX5_slotAt_283 (lv_at hl 8 rfl) ?_
                        refine jv_iconst hx hb dX5_slotAt_285 ?_
                        refine jv_icmp_ne (tgt := 304) hx hb ⟨by omega, by omega⟩ ⟨by decide, by decide⟩ dX5_slotAt_286 (by decide) (fun c286 => ?_) (fun c286 => ?_)
                        · skip
                          refine lv_iload hx hb dX5_slotAt_304 (lv_at hl 8 rfl) ?_
                          refine jv_if_ne (tgt := 322) hx hb ⟨by omega, by omega⟩ dX5_slotAt_306 (by decide) (fun c306 => ?_) (fun c306 => ?_)
                          · skip
                            refine lv_aload_n hx hb dX5_slotAt_322 rfl (lv_at hl 4 rfl) ?_
                            refine va_get (D := D) (ci := 5) (v := .ref (md 7)) (C := RX5) (T := TX5) (N := 31) hx hb hts inX5 hown hK hP 0 rfl rfl 7 (by decide) f20 (fun _ h9 => h9) rfl dX5_slotAt_323 ?_
                            refine lv_iload hx hb dX5_slotAt_326 (lv_at hl 0 rfl) ?_
                            refine jv_iald hx hb hK hP 3 0 rfl rfl (i := (4 * i)) ⟨by omega, by omega⟩ (Nat.le_of_ble_eq_true rfl) dX5_slotAt_328 ?_
                            refine lv_iload hx hb dX5_slotAt_329 (lv_at hl 1 rfl) ?_
                            refine jv_iadd hx hb dX5_slotAt_331 ?_
                            refine jv_iconst hx hb dX5_slotAt_332 ?_
                            refine jv_iadd hx hb dX5_slotAt_333 ?_
                            exact hret (((bo (4 * i)) + (v9 + (lf * (v9 + 2)))) + 2) cv9 _ _ _ _ (by
                              have hsn2 : lf < slN q v9 := by omega
                              have hkb := (slN_bd hok2 how.1).2.2 lf (by omega) hsn2
                              have hz9 := slAt_h (sd := sd) hi.1 hq (show q.2.1 = layer by omega) (by omega) hsn2
                              refine Or.inr (Or.inr ⟨hc0, ⟨hol, hos⟩, how, ?_⟩)
                              rw [hs, hz9]
                              unfold slS
                              first
                              | (rw [if_neg (by omega)]; rw [if_pos (by omega)]; omega)
                              | (rw [if_neg (by omega)]; rw [if_neg (by omega), if_pos (by omega)]; omega)
                              | (rw [if_neg (by omega)]; rw [if_neg (by omega), if_neg (by omega), if_pos (by omega)]; omega)
                              | (rw [if_neg (by omega)]; rw [if_neg (by omega), if_neg (by omega), if_neg (by omega)]; omega)) (hP.sub [0, 1, 2, 3] rfl) (hD.sub [0, 1, 2, 3] (by decide) rfl) hS dX5_slotAt_334
                          · skip
                            refine lv_aload_n hx hb dX5_slotAt_309 rfl (lv_at hl 4 rfl) ?_
                            refine va_get (D := D) (ci := 5) (v := .ref (md 7)) (C := RX5) (T := TX5) (N := 31) hx hb hts inX5 hown hK hP 0 rfl rfl 7 (by decide) f20 (fun _ h9 => h9) rfl dX5_slotAt_310 ?_
                            refine lv_iload hx hb dX5_slotAt_313 (lv_at hl 0 rfl) ?_
                            refine jv_iald hx hb hK hP 3 0 rfl rfl (i := (4 * i)) ⟨by omega, by omega⟩ (Nat.le_of_ble_eq_true rfl) dX5_slotAt_315 ?_
                            refine lv_iload hx hb dX5_slotAt_316 (lv_at hl 1 rfl) ?_
                            refine jv_iadd hx hb dX5_slotAt_318 ?_
                            refine lv_goto (tgt := 334) hx hb dX5_slotAt_319 (by decide) ?_
                            exact hret ((bo (4 * i)) + (v9 + (lf * (v9 + 2)))) cv9 _ _ _ _ (by
                              have hsn2 : lf < slN q v9 := by omega
                              have hkb := (slN_bd hok2 how.1).2.2 lf (by omega) hsn2
                              have hz9 := slAt_h (sd := sd) hi.1 hq (show q.2.1 = layer by omega) (by omega) hsn2
                              refine Or.inr (Or.inr ⟨hc0, ⟨hol, hos⟩, how, ?_⟩)
                              rw [hs, hz9]
                              unfold slS
                              first
                              | (rw [if_neg (by omega)]; rw [if_pos (by omega)]; omega)
                              | (rw [if_neg (by omega)]; rw [if_neg (by omega), if_pos (by omega)]; omega)
                              | (rw [if_neg (by omega)]; rw [if_neg (by omega), if_neg (by omega), if_pos (by omega)]; omega)
                              | (rw [if_neg (by omega)]; rw [if_neg (by omega), if_neg (by omega), if_neg (by omega)]; omega)) (hP.sub [0, 1, 2, 3] rfl) (hD.sub [0, 1, 2, 3] (by decide) rfl) hS dX5_slotAt_334
                        · skip
                          refine lv_aload_n hx hb dX5_slotAt_289 rfl (lv_at hl 4 rfl) ?_
                          refine va_get (D := D) (ci := 5) (v := .ref (md 7)) (C := RX5) (T := TX5) (N := 31) hx hb hts inX5 hown hK hP 0 rfl rfl 7 (by decide) f20 (fun _ h9 => h9) rfl dX5_slotAt_290 ?_
                          refine lv_iload hx hb dX5_slotAt_293 (lv_at hl 0 rfl) ?_
                          refine jv_iconst hx hb dX5_slotAt_295 ?_
                          refine jv_iadd hx hb dX5_slotAt_296 ?_
                          refine jv_iald hx hb hK hP 3 0 rfl rfl (i := ((4 * i) + 3)) ⟨by omega, by omega⟩ (Nat.le_of_ble_eq_true rfl) dX5_slotAt_297 ?_
                          refine lv_iload hx hb dX5_slotAt_298 (lv_at hl 9 rfl) ?_
                          refine jv_isub hx hb dX5_slotAt_300 ?_
                          refine lv_goto (tgt := 334) hx hb dX5_slotAt_301 (by decide) ?_
                          exact hret ((bo ((4 * i) + 3)) - v9) cv9 _ _ _ _ (by
                            have hsn2 : lf < slN q v9 := by omega
                            have hkb := (slN_bd hok2 how.1).2.2 lf (by omega) hsn2
                            have hz9 := slAt_h (sd := sd) hi.1 hq (show q.2.1 = layer by omega) (by omega) hsn2
                            refine Or.inr (Or.inr ⟨hc0, ⟨hol, hos⟩, how, ?_⟩)
                            rw [hs, hz9]
                            unfold slS
                            first
                            | (rw [if_neg (by omega)]; rw [if_pos (by omega)]; omega)
                            | (rw [if_neg (by omega)]; rw [if_neg (by omega), if_pos (by omega)]; omega)
                            | (rw [if_neg (by omega)]; rw [if_neg (by omega), if_neg (by omega), if_pos (by omega)]; omega)
                            | (rw [if_neg (by omega)]; rw [if_neg (by omega), if_neg (by omega), if_neg (by omega)]; omega)) (hP.sub [0, 1, 2, 3] rfl) (hD.sub [0, 1, 2, 3] (by decide) rfl) hS dX5_slotAt_334
                      · skip
                        refine lv_aload_n hx hb dX5_slotAt_268 rfl (lv_at hl 4 rfl) ?_
                        refine va_get (D := D) (ci := 5) (v := .ref (md 7)) (C := RX5) (T := TX5) (N := 31) hx hb hts inX5 hown hK hP 0 rfl rfl 7 (by decide) f20 (fun _ h9 => h9) rfl dX5_slotAt_269 ?_
                        refine lv_iload hx hb dX5_slotAt_272 (lv_at hl 0 rfl) ?_
                        refine jv_iconst hx hb dX5_slotAt_274 ?_
                        refine jv_iadd hx hb dX5_slotAt_275 ?_
                        refine jv_iald hx hb hK hP 3 0 rfl rfl (i := ((4 * i) + 1)) ⟨by omega, by omega⟩ (Nat.le_of_ble_eq_true rfl) dX5_slotAt_276 ?_
                        refine lv_iload hx hb dX5_slotAt_277 (lv_at hl 9 rfl) ?_
                        refine jv_iadd hx hb dX5_slotAt_279 ?_
                        refine lv_goto (tgt := 334) hx hb dX5_slotAt_280 (by decide) ?_
                        exact hret ((bo ((4 * i) + 1)) + v9) cv9 _ _ _ _ (by
                          have hsn2 : lf < slN q v9 := by omega
                          have hkb := (slN_bd hok2 how.1).2.2 lf (by omega) hsn2
                          have hz9 := slAt_h (sd := sd) hi.1 hq (show q.2.1 = layer by omega) (by omega) hsn2
                          refine Or.inr (Or.inr ⟨hc0, ⟨hol, hos⟩, how, ?_⟩)
                          rw [hs, hz9]
                          unfold slS
                          first
                          | (rw [if_neg (by omega)]; rw [if_pos (by omega)]; omega)
                          | (rw [if_neg (by omega)]; rw [if_neg (by omega), if_pos (by omega)]; omega)
                          | (rw [if_neg (by omega)]; rw [if_neg (by omega), if_neg (by omega), if_pos (by omega)]; omega)
                          | (rw [if_neg (by omega)]; rw [if_neg (by omega), if_neg (by omega), if_neg (by omega)]; omega)) (hP.sub [0, 1, 2, 3] rfl) (hD.sub [0, 1, 2, 3] (by decide) rfl) hS dX5_slotAt_334
                    · skip
                      refine lv_iload hx hb dX5_slotAt_187 (lv_at hl 8 rfl) ?_
                      refine jv_if_ne (tgt := 205) hx hb ⟨by omega, by omega⟩ dX5_slotAt_189 (by decide) (fun c189 => ?_) (fun c189 => ?_)
                      · skip
                        refine lv_iload hx hb dX5_slotAt_205 (lv_at hl 8 rfl) ?_
                        refine jv_iconst hx hb dX5_slotAt_207 ?_
                        refine jv_icmp_ne (tgt := 226) hx hb ⟨by omega, by omega⟩ ⟨by decide, by decide⟩ dX5_slotAt_208 (by decide) (fun c208 => ?_) (fun c208 => ?_)
                        · skip
                          refine lv_iload hx hb dX5_slotAt_226 (lv_at hl 8 rfl) ?_
                          refine jv_iconst hx hb dX5_slotAt_228 ?_
                          refine jv_icmp_ne (tgt := 247) hx hb ⟨by omega, by omega⟩ ⟨by decide, by decide⟩ dX5_slotAt_229 (by decide) (fun c229 => ?_) (fun c229 => ?_)
                          · skip
                            refine lv_aload_n hx hb dX5_slotAt_247 rfl (lv_at hl 4 rfl) ?_
                            refine va_get (D := D) (ci := 5) (v := .ref (md 7)) (C := RX5) (T := TX5) (N := 31) hx hb hts inX5 hown hK hP 0 rfl rfl 7 (by decide) f20 (fun _ h9 => h9) rfl dX5_slotAt_248 ?_
                            refine lv_iload hx hb dX5_slotAt_251 (lv_at hl 0 rfl) ?_
                            refine jv_iconst hx hb dX5_slotAt_253 ?_
                            refine jv_iadd hx hb dX5_slotAt_254 ?_
                            refine jv_iald hx hb hK hP 3 0 rfl rfl (i := ((4 * i) + 1)) ⟨by omega, by omega⟩ (Nat.le_of_ble_eq_true rfl) dX5_slotAt_255 ?_
                            refine lv_iload hx hb dX5_slotAt_256 (lv_at hl 1 rfl) ?_
                            refine jv_iadd hx hb dX5_slotAt_258 ?_
                            refine jv_iconst hx hb dX5_slotAt_259 ?_
                            refine jv_iadd hx hb dX5_slotAt_260 ?_
                            exact hret (((bo ((4 * i) + 1)) + (v9 + (lf * (v9 + 2)))) + 2) cv9 _ _ _ _ (by
                              have hsn2 : lf < slN q v9 := by omega
                              have hkb := (slN_bd hok2 how.1).2.2 lf (by omega) hsn2
                              have hz9 := slAt_h (sd := sd) hi.1 hq (show q.2.1 = layer by omega) (by omega) hsn2
                              refine Or.inr (Or.inr ⟨hc0, ⟨hol, hos⟩, how, ?_⟩)
                              rw [hs, hz9]
                              unfold slS
                              first
                              | (rw [if_pos (by omega)]; rw [if_pos (by omega)]; omega)
                              | (rw [if_pos (by omega)]; rw [if_neg (by omega), if_pos (by omega)]; omega)
                              | (rw [if_pos (by omega)]; rw [if_neg (by omega), if_neg (by omega), if_pos (by omega)]; omega)
                              | (rw [if_pos (by omega)]; rw [if_neg (by omega), if_neg (by omega), if_neg (by omega)]; omega)) (hP.sub [0, 1, 2, 3] rfl) (hD.sub [0, 1, 2, 3] (by decide) rfl) hS dX5_slotAt_261
                          · skip
                            refine lv_aload_n hx hb dX5_slotAt_232 rfl (lv_at hl 4 rfl) ?_
                            refine va_get (D := D) (ci := 5) (v := .ref (md 7)) (C := RX5) (T := TX5) (N := 31) hx hb hts inX5 hown hK hP 0 rfl rfl 7 (by decide) f20 (fun _ h9 => h9) rfl dX5_slotAt_233 ?_
                            refine lv_iload hx hb dX5_slotAt_236 (lv_at hl 0 rfl) ?_
                            refine jv_iconst hx hb dX5_slotAt_238 ?_
                            refine jv_iadd hx hb dX5_slotAt_239 ?_
                            refine jv_iald hx hb hK hP 3 0 rfl rfl (i := ((4 * i) + 1)) ⟨by omega, by omega⟩ (Nat.le_of_ble_eq_true rfl) dX5_slotAt_240 ?_
                            refine lv_iload hx hb dX5_slotAt_241 (lv_at hl 1 rfl) ?_
                            refine jv_iadd hx hb dX5_slotAt_243 ?_
                            refine lv_goto (tgt := 261) hx hb dX5_slotAt_244 (by decide) ?_
                            exact hret ((bo ((4 * i) + 1)) + (v9 + (lf * (v9 + 2)))) cv9 _ _ _ _ (by
                              have hsn2 : lf < slN q v9 := by omega
                              have hkb := (slN_bd hok2 how.1).2.2 lf (by omega) hsn2
                              have hz9 := slAt_h (sd := sd) hi.1 hq (show q.2.1 = layer by omega) (by omega) hsn2
                              refine Or.inr (Or.inr ⟨hc0, ⟨hol, hos⟩, how, ?_⟩)
                              rw [hs, hz9]
                              unfold slS
                              first
                              | (rw [if_pos (by omega)]; rw [if_pos (by omega)]; omega)
                              | (rw [if_pos (by omega)]; rw [if_neg (by omega), if_pos (by omega)]; omega)
                              | (rw [if_pos (by omega)]; rw [if_neg (by omega), if_neg (by omega), if_pos (by omega)]; omega)
                              | (rw [if_pos (by omega)]; rw [if_neg (by omega), if_neg (by omega), if_neg (by omega)]; omega)) (hP.sub [0, 1, 2, 3] rfl) (hD.sub [0, 1, 2, 3] (by decide) rfl) hS dX5_slotAt_261
                        · skip
                          refine lv_aload_n hx hb dX5_slotAt_211 rfl (lv_at hl 4 rfl) ?_
                          refine va_get (D := D) (ci := 5) (v := .ref (md 7)) (C := RX5) (T := TX5) (N := 31) hx hb hts inX5 hown hK hP 0 rfl rfl 7 (by decide) f20 (fun _ h9 => h9) rfl dX5_slotAt_212 ?_
                          refine lv_iload hx hb dX5_slotAt_215 (lv_at hl 0 rfl) ?_
                          refine jv_iconst hx hb dX5_slotAt_217 ?_
                          refine jv_iadd hx hb dX5_slotAt_218 ?_
                          refine jv_iald hx hb hK hP 3 0 rfl rfl (i := ((4 * i) + 2)) ⟨by omega, by omega⟩ (Nat.le_of_ble_eq_true rfl) dX5_slotAt_219 ?_
                          refine lv_iload hx hb dX5_slotAt_220 (lv_at hl 9 rfl) ?_
                          refine jv_isub hx hb dX5_slotAt_222 ?_
                          refine lv_goto (tgt := 261) hx hb dX5_slotAt_223 (by decide) ?_
                          exact hret ((bo ((4 * i) + 2)) - v9) cv9 _ _ _ _ (by
                            have hsn2 : lf < slN q v9 := by omega
                            have hkb := (slN_bd hok2 how.1).2.2 lf (by omega) hsn2
                            have hz9 := slAt_h (sd := sd) hi.1 hq (show q.2.1 = layer by omega) (by omega) hsn2
                            refine Or.inr (Or.inr ⟨hc0, ⟨hol, hos⟩, how, ?_⟩)
                            rw [hs, hz9]
                            unfold slS
                            first
                            | (rw [if_pos (by omega)]; rw [if_pos (by omega)]; omega)
                            | (rw [if_pos (by omega)]; rw [if_neg (by omega), if_pos (by omega)]; omega)
                            | (rw [if_pos (by omega)]; rw [if_neg (by omega), if_neg (by omega), if_pos (by omega)]; omega)
                            | (rw [if_pos (by omega)]; rw [if_neg (by omega), if_neg (by omega), if_neg (by omega)]; omega)) (hP.sub [0, 1, 2, 3] rfl) (hD.sub [0, 1, 2, 3] (by decide) rfl) hS dX5_slotAt_261
                      · skip
                        refine lv_aload_n hx hb dX5_slotAt_192 rfl (lv_at hl 4 rfl) ?_
                        refine va_get (D := D) (ci := 5) (v := .ref (md 7)) (C := RX5) (T := TX5) (N := 31) hx hb hts inX5 hown hK hP 0 rfl rfl 7 (by decide) f20 (fun _ h9 => h9) rfl dX5_slotAt_193 ?_
                        refine lv_iload hx hb dX5_slotAt_196 (lv_at hl 0 rfl) ?_
                        refine jv_iald hx hb hK hP 3 0 rfl rfl (i := (4 * i)) ⟨by omega, by omega⟩ (Nat.le_of_ble_eq_true rfl) dX5_slotAt_198 ?_
                        refine lv_iload hx hb dX5_slotAt_199 (lv_at hl 9 rfl) ?_
                        refine jv_iadd hx hb dX5_slotAt_201 ?_
                        refine lv_goto (tgt := 261) hx hb dX5_slotAt_202 (by decide) ?_
                        exact hret ((bo (4 * i)) + v9) cv9 _ _ _ _ (by
                          have hsn2 : lf < slN q v9 := by omega
                          have hkb := (slN_bd hok2 how.1).2.2 lf (by omega) hsn2
                          have hz9 := slAt_h (sd := sd) hi.1 hq (show q.2.1 = layer by omega) (by omega) hsn2
                          refine Or.inr (Or.inr ⟨hc0, ⟨hol, hos⟩, how, ?_⟩)
                          rw [hs, hz9]
                          unfold slS
                          first
                          | (rw [if_pos (by omega)]; rw [if_pos (by omega)]; omega)
                          | (rw [if_pos (by omega)]; rw [if_neg (by omega), if_pos (by omega)]; omega)
                          | (rw [if_pos (by omega)]; rw [if_neg (by omega), if_neg (by omega), if_pos (by omega)]; omega)
                          | (rw [if_pos (by omega)]; rw [if_neg (by omega), if_neg (by omega), if_neg (by omega)]; omega)) (hP.sub [0, 1, 2, 3] rfl) (hD.sub [0, 1, 2, 3] (by decide) rfl) hS dX5_slotAt_261
              · skip
                refine lv_aload_n hx hb dX5_slotAt_89 rfl (lv_at hl 0 rfl) ?_
                refine lv_iload hx hb dX5_slotAt_90 (lv_at hl 7 rfl) ?_
                refine lv_iload hx hb dX5_slotAt_92 (lv_at hl 5 rfl) ?_
                refine jc_Vi (As := [.int (jI i), .int (jI v9)]) (rest := []) (wq := [((md 5), .inl (g.1, 200, .inl (aI sn))), ((md 6), .inl (g.1, 200, .inl (aI sl)))]) ⟨hx, hb, hml, hown, hts⟩ (tX5_slotsOf l D g hm md cv9 ly nt ns nd np nq tq sn sl bo L q i v9 (⟨e2, e3, e4, e5, hok2⟩) (⟨hi.1, by omega⟩) (by omega)) (cwV 2 hts gX5_slotAt_X5_slotsOf rfl rfl rfl (by decide +kernel) ⟨Nat.le_of_ble_eq_true rfl, Nat.le_of_ble_eq_true rfl⟩) hK hP hD hS hA [0, 3] [1, 2] rfl rfl (by decide) (by decide) (by decide) (va_recv hK hP (ci := 5) (q0 := 0) rfl rfl) rfl rfl hl.1 (Nat.le_of_ble_eq_true rfl) dX5_slotAt_94 ⟨Nat.le_of_ble_eq_true rfl, Nat.le_of_ble_eq_true rfl⟩ (fun sn9 u H locs hu hP hD hS => ?_)
                have hu : sn9 = slN q v9 := hu
                have hsn := hu
                have hP : va_P D jcl [((md 5), .inl (g.1, 200, .inl (aI sn))), ((md 6), .inl (g.1, 200, .inl (aI sl))), (hm, .inr (5, [.int (jI cv9), .int (jI ly), .int (jI nt), .ref (md 3), .int (jI ns), .ref (md 5), .ref (md 6), .ref (md 7), .int (jI nd), .ref (md 9), .ref (md 10), .ref (md 11), .int (jI np), .ref (md 13), .ref (md 14), .ref (md 15), .ref (md 16), .ref (md 17), .ref (md 18), .ref (md 19), .ref (md 20), .int (jI nq), .ref (md 22), .ref (md 23), .ref (md 24), .ref (md 25), .ref (md 26), .int (jI tq), .ref (md 28), .ref (md 29), .ref (md 30)])), ((md 7), .inl (g.1, 800, .inl (aI bo)))] H := hP
                have hD : va_D A [((md 5), .inl (g.1, 200, .inl (aI sn))), ((md 6), .inl (g.1, 200, .inl (aI sl))), (hm, .inr (5, [.int (jI cv9), .int (jI ly), .int (jI nt), .ref (md 3), .int (jI ns), .ref (md 5), .ref (md 6), .ref (md 7), .int (jI nd), .ref (md 9), .ref (md 10), .ref (md 11), .int (jI np), .ref (md 13), .ref (md 14), .ref (md 15), .ref (md 16), .ref (md 17), .ref (md 18), .ref (md 19), .ref (md 20), .int (jI nq), .ref (md 22), .ref (md 23), .ref (md 24), .ref (md 25), .ref (md 26), .int (jI tq), .ref (md 28), .ref (md 29), .ref (md 30)])), ((md 7), .inl (g.1, 800, .inl (aI bo)))] := hD
                have hnb := slN_bd hok2 how.1
                rw [← hsn] at hnb
                refine lv_goto (tgt := 101) hx hb dX5_slotAt_97 (by decide) ?_
                refine lv_istore (lv' := [(9, .int (jI sn9)), (0, .ref hm), (1, .int (jI layer)), (2, .long (jL v9)), (4, .int (jI k9)), (5, .int (jI sd)), (6, .int (jI v9)), (7, .int (jI lf)), (8, .int (jI i))]) hx hb dX5_slotAt_101 hl (by decide) rfl (fun ls hl => ?_)
                refine lv_iload hx hb dX5_slotAt_103 (lv_at hl 7 rfl) ?_
                refine lv_iload hx hb dX5_slotAt_105 (lv_at hl 0 rfl) ?_
                refine jv_icmp_ge (tgt := 335) hx hb ⟨by omega, by omega⟩ ⟨by omega, by omega⟩ dX5_slotAt_107 (by decide) (fun c107 => ?_) (fun c107 => ?_)
                · skip
                  refine lv_iload hx hb dX5_slotAt_335 (lv_at hl 7 rfl) ?_
                  refine lv_iload hx hb dX5_slotAt_337 (lv_at hl 0 rfl) ?_
                  refine jv_isub hx hb dX5_slotAt_339 ?_
                  refine lv_istore (lv' := [(7, .int (jI (lf - sn9))), (9, .int (jI sn9)), (0, .ref hm), (1, .int (jI layer)), (2, .long (jL v9)), (4, .int (jI k9)), (5, .int (jI sd)), (6, .int (jI v9)), (8, .int (jI i))]) hx hb dX5_slotAt_340 hl (by decide) rfl (fun ls hl => ?_)
                  refine jv_iinc (lv2 := [(8, .int (jI (i + 1))), (7, .int (jI (lf - sn9))), (9, .int (jI sn9)), (0, .ref hm), (1, .int (jI layer)), (2, .long (jL v9)), (4, .int (jI k9)), (5, .int (jI sd)), (6, .int (jI v9))]) hx hb dX5_slotAt_342 hl (k := 8) rfl (by decide) rfl (fun ls hl => ?_)
                  refine lv_goto (tgt := 57) hx hb dX5_slotAt_345 (by decide) ?_
                  exact ihLS (i + 1) (lf - sn9) (by omega) (by omega) (by first | (rw [hs, slAt_n hi.1 hq (by omega), Int.sub_zero]) | (rw [hs, slAt_s hi.1 hq (by omega) (by omega) (by omega), ← hsn])) (by omega) _ _ _ (hP.sub [2, 0, 1, 3] rfl) (hD.sub [2, 0, 1, 3] (by decide) rfl) hS (lv_sub hl [3, 4, 5, 6, 7, 8, 1, 0] rfl)
                · skip
                  have hkb := (slN_bd hok2 how.1).2.2 lf (by omega) (by omega)
                  have hk0 : 0 ≤ lf * (v9 + 2) := Int.mul_nonneg (by omega) (by omega)
                  refine lv_aload_n hx hb dX5_slotAt_110 rfl (lv_at hl 1 rfl) ?_
                  refine va_get (D := D) (ci := 5) (v := .ref (md 7)) (C := RX5) (T := TX5) (N := 31) hx hb hts inX5 hown hK hP 2 rfl rfl 7 (by decide) f20 (fun _ h9 => h9) rfl dX5_slotAt_111 ?_
                  refine jv_iconst hx hb dX5_slotAt_114 ?_
                  refine lv_iload hx hb dX5_slotAt_115 (lv_at hl 8 rfl) ?_
                  refine jv_imul hx hb dX5_slotAt_117 ?_
                  refine jv_iconst hx hb dX5_slotAt_118 ?_
                  refine jv_iadd hx hb dX5_slotAt_119 ?_
                  refine jv_iald hx hb hK hP 3 0 rfl rfl (i := ((4 * i) + 2)) ⟨by omega, by omega⟩ (Nat.le_of_ble_eq_true rfl) dX5_slotAt_120 ?_
                  refine lv_aload_n hx hb dX5_slotAt_121 rfl (lv_at hl 1 rfl) ?_
                  refine va_get (D := D) (ci := 5) (v := .ref (md 7)) (C := RX5) (T := TX5) (N := 31) hx hb hts inX5 hown hK hP 2 rfl rfl 7 (by decide) f20 (fun _ h9 => h9) rfl dX5_slotAt_122 ?_
                  refine jv_iconst hx hb dX5_slotAt_125 ?_
                  refine lv_iload hx hb dX5_slotAt_126 (lv_at hl 8 rfl) ?_
                  refine jv_imul hx hb dX5_slotAt_128 ?_
                  refine jv_iald hx hb hK hP 3 0 rfl rfl (i := (4 * i)) ⟨by omega, by omega⟩ (Nat.le_of_ble_eq_true rfl) dX5_slotAt_129 ?_
                  refine jv_isub hx hb dX5_slotAt_130 ?_
                  refine lv_aload_n hx hb dX5_slotAt_131 rfl (lv_at hl 1 rfl) ?_
                  refine va_get (D := D) (ci := 5) (v := .ref (md 7)) (C := RX5) (T := TX5) (N := 31) hx hb hts inX5 hown hK hP 2 rfl rfl 7 (by decide) f20 (fun _ h9 => h9) rfl dX5_slotAt_132 ?_
                  refine jv_iconst hx hb dX5_slotAt_135 ?_
                  refine lv_iload hx hb dX5_slotAt_136 (lv_at hl 8 rfl) ?_
                  refine jv_imul hx hb dX5_slotAt_138 ?_
                  refine jv_iconst hx hb dX5_slotAt_139 ?_
                  refine jv_iadd hx hb dX5_slotAt_140 ?_
                  refine jv_iald hx hb hK hP 3 0 rfl rfl (i := ((4 * i) + 3)) ⟨by omega, by omega⟩ (Nat.le_of_ble_eq_true rfl) dX5_slotAt_141 ?_
                  refine lv_aload_n hx hb dX5_slotAt_142 rfl (lv_at hl 1 rfl) ?_
                  refine va_get (D := D) (ci := 5) (v := .ref (md 7)) (C := RX5) (T := TX5) (N := 31) hx hb hts inX5 hown hK hP 2 rfl rfl 7 (by decide) f20 (fun _ h9 => h9) rfl dX5_slotAt_143 ?_
                  refine jv_iconst hx hb dX5_slotAt_146 ?_
                  refine lv_iload hx hb dX5_slotAt_147 (lv_at hl 8 rfl) ?_
                  refine jv_imul hx hb dX5_slotAt_149 ?_
                  refine jv_iconst hx hb dX5_slotAt_150 ?_
                  refine jv_iadd hx hb dX5_slotAt_151 ?_
                  refine jv_iald hx hb hK hP 3 0 rfl rfl (i := ((4 * i) + 1)) ⟨by omega, by omega⟩ (Nat.le_of_ble_eq_true rfl) dX5_slotAt_152 ?_
                  refine jv_isub hx hb dX5_slotAt_153 ?_
                  refine jv_icmp_lt (tgt := 161) hx hb ⟨by omega, by omega⟩ ⟨by omega, by omega⟩ dX5_slotAt_154 (by decide) (fun c154 => ?_) (fun c154 => ?_)
                  · skip
                    refine jv_iconst hx hb dX5_slotAt_161 ?_
                    refine lv_istore (lv' := [(10, .int (jI 0)), (9, .int (jI sn9)), (0, .ref hm), (1, .int (jI layer)), (2, .long (jL v9)), (4, .int (jI k9)), (5, .int (jI sd)), (6, .int (jI v9)), (7, .int (jI lf)), (8, .int (jI i))]) hx hb dX5_slotAt_162 hl (by decide) rfl (fun ls hl => ?_)
                    refine lv_iload hx hb dX5_slotAt_164 (lv_at hl 7 rfl) ?_
                    refine lv_iload hx hb dX5_slotAt_166 (lv_at hl 8 rfl) ?_
                    refine lv_iload hx hb dX5_slotAt_168 (lv_at hl 7 rfl) ?_
                    refine jv_iconst hx hb dX5_slotAt_170 ?_
                    refine jv_iadd hx hb dX5_slotAt_171 ?_
                    refine jv_imul hx hb dX5_slotAt_172 ?_
                    refine jv_iadd hx hb dX5_slotAt_173 ?_
                    refine lv_istore (lv' := [(11, .int (jI (v9 + (lf * (v9 + 2))))), (10, .int (jI 0)), (9, .int (jI sn9)), (0, .ref hm), (1, .int (jI layer)), (2, .long (jL v9)), (4, .int (jI k9)), (5, .int (jI sd)), (6, .int (jI v9)), (7, .int (jI lf)), (8, .int (jI i))]) hx hb dX5_slotAt_174 hl (by decide) rfl (fun ls hl => ?_)
                    refine jv_iconst hx hb dX5_slotAt_176 ?_
                    refine lv_iload hx hb dX5_slotAt_177 (lv_at hl 10 rfl) ?_
                    refine jv_imul hx hb dX5_slotAt_179 ?_
                    refine lv_istore (lv' := [(12, .int (jI (4 * i))), (11, .int (jI (v9 + (lf * (v9 + 2))))), (10, .int (jI 0)), (9, .int (jI sn9)), (0, .ref hm), (1, .int (jI layer)), (2, .long (jL v9)), (4, .int (jI k9)), (5, .int (jI sd)), (6, .int (jI v9)), (7, .int (jI lf)), (8, .int (jI i))]) hx hb dX5_slotAt_180 hl (by decide) rfl (fun ls hl => ?_)
                    refine lv_iload hx hb dX5_slotAt_182 (lv_at hl 2 rfl) ?_
                    refine jv_if_eq (tgt := 262) hx hb ⟨by decide, by decide⟩ dX5_slotAt_184 (by decide) (fun c184 => ?_) (fun c184 => ?_)
                    · skip
                      refine lv_iload hx hb dX5_slotAt_262 (lv_at hl 8 rfl) ?_
                      refine jv_iconst hx hb dX5_slotAt_264 ?_
                      refine jv_icmp_ne (tgt := 283) hx hb ⟨by omega, by omega⟩ ⟨by decide, by decide⟩ dX5_slotAt_265 (by decide) (fun c265 => ?_) (fun c265 => ?_)
                      · skip
                        refine lv_iload hx hb dX5_slotAt_283 (lv_at hl 8 rfl) ?_
                        refine jv_iconst hx hb dX5_slotAt_285 ?_
                        refine jv_icmp_ne (tgt := 304) hx hb ⟨by omega, by omega⟩ ⟨by decide, by decide⟩ dX5_slotAt_286 (by decide) (fun c286 => ?_) (fun c286 => ?_)
                        · skip
                          refine lv_iload hx hb dX5_slotAt_304 (lv_at hl 8 rfl) ?_
                          refine jv_if_ne (tgt := 322) hx hb ⟨by omega, by omega⟩ dX5_slotAt_306 (by decide) (fun c306 => ?_) (fun c306 => ?_)
                          · skip
                            refine lv_aload_n hx hb dX5_slotAt_322 rfl (lv_at hl 4 rfl) ?_
                            refine va_get (D := D) (ci := 5) (v := .ref (md 7)) (C := RX5) (T := TX5) (N := 31) hx hb hts inX5 hown hK hP 2 rfl rfl 7 (by decide) f20 (fun _ h9 => h9) rfl dX5_slotAt_323 ?_
                            refine lv_iload hx hb dX5_slotAt_326 (lv_at hl 0 rfl) ?_
                            refine jv_iald hx hb hK hP 3 0 rfl rfl (i := (4 * i)) ⟨by omega, by omega⟩ (Nat.le_of_ble_eq_true rfl) dX5_slotAt_328 ?_
                            refine lv_iload hx hb dX5_slotAt_329 (lv_at hl 1 rfl) ?_
                            refine jv_iadd hx hb dX5_slotAt_331 ?_
                            refine jv_iconst hx hb dX5_slotAt_332 ?_
                            refine jv_iadd hx hb dX5_slotAt_333 ?_
                            exact hret (((bo (4 * i)) + (v9 + (lf * (v9 + 2)))) + 2) cv9 _ _ _ _ (by
                              have hsn2 : lf < slN q v9 := by omega
                              have hkb := (slN_bd hok2 how.1).2.2 lf (by omega) hsn2
                              have hz9 := slAt_h (sd := sd) hi.1 hq (show q.2.1 = layer by omega) (by omega) hsn2
                              refine Or.inr (Or.inr ⟨hc0, ⟨hol, hos⟩, how, ?_⟩)
                              rw [hs, hz9]
                              unfold slS
                              first
                              | (rw [if_neg (by omega)]; rw [if_pos (by omega)]; omega)
                              | (rw [if_neg (by omega)]; rw [if_neg (by omega), if_pos (by omega)]; omega)
                              | (rw [if_neg (by omega)]; rw [if_neg (by omega), if_neg (by omega), if_pos (by omega)]; omega)
                              | (rw [if_neg (by omega)]; rw [if_neg (by omega), if_neg (by omega), if_neg (by omega)]; omega)) (hP.sub [2, 0, 1, 3] rfl) (hD.sub [2, 0, 1, 3] (by decide) rfl) hS dX5_slotAt_334
                          · skip
                            refine lv_aload_n hx hb dX5_slotAt_309 rfl (lv_at hl 4 rfl) ?_
                            refine va_get (D := D) (ci := 5) (v := .ref (md 7)) (C := RX5) (T := TX5) (N := 31) hx hb hts inX5 hown hK hP 2 rfl rfl 7 (by decide) f20 (fun _ h9 => h9) rfl dX5_slotAt_310 ?_
                            refine lv_iload hx hb dX5_slotAt_313 (lv_at hl 0 rfl) ?_
                            refine jv_iald hx hb hK hP 3 0 rfl rfl (i := (4 * i)) ⟨by omega, by omega⟩ (Nat.le_of_ble_eq_true rfl) dX5_slotAt_315 ?_
                            refine lv_iload hx hb dX5_slotAt_316 (lv_at hl 1 rfl) ?_
                            refine jv_iadd hx hb dX5_slotAt_318 ?_
                            refine lv_goto (tgt := 334) hx hb dX5_slotAt_319 (by decide) ?_
                            exact hret ((bo (4 * i)) + (v9 + (lf * (v9 + 2)))) cv9 _ _ _ _ (by
                              have hsn2 : lf < slN q v9 := by omega
                              have hkb := (slN_bd hok2 how.1).2.2 lf (by omega) hsn2
                              have hz9 := slAt_h (sd := sd) hi.1 hq (show q.2.1 = layer by omega) (by omega) hsn2
                              refine Or.inr (Or.inr ⟨hc0, ⟨hol, hos⟩, how, ?_⟩)
                              rw [hs, hz9]
                              unfold slS
                              first
                              | (rw [if_neg (by omega)]; rw [if_pos (by omega)]; omega)
                              | (rw [if_neg (by omega)]; rw [if_neg (by omega), if_pos (by omega)]; omega)
                              | (rw [if_neg (by omega)]; rw [if_neg (by omega), if_neg (by omega), if_pos (by omega)]; omega)
                              | (rw [if_neg (by omega)]; rw [if_neg (by omega), if_neg (by omega), if_neg (by omega)]; omega)) (hP.sub [2, 0, 1, 3] rfl) (hD.sub [2, 0, 1, 3] (by decide) rfl) hS dX5_slotAt_334
                        · skip
                          refine lv_aload_n hx hb dX5_slotAt_289 rfl (lv_at hl 4 rfl) ?_
                          refine va_get (D := D) (ci := 5) (v := .ref (md 7)) (C := RX5) (T := TX5) (N := 31) hx hb hts inX5 hown hK hP 2 rfl rfl 7 (by decide) f20 (fun _ h9 => h9) rfl dX5_slotAt_290 ?_
                          refine lv_iload hx hb dX5_slotAt_293 (lv_at hl 0 rfl) ?_
                          refine jv_iconst hx hb dX5_slotAt_295 ?_
                          refine jv_iadd hx hb dX5_slotAt_296 ?_
                          refine jv_iald hx hb hK hP 3 0 rfl rfl (i := ((4 * i) + 3)) ⟨by omega, by omega⟩ (Nat.le_of_ble_eq_true rfl) dX5_slotAt_297 ?_
                          refine lv_iload hx hb dX5_slotAt_298 (lv_at hl 9 rfl) ?_
                          refine jv_isub hx hb dX5_slotAt_300 ?_
                          refine lv_goto (tgt := 334) hx hb dX5_slotAt_301 (by decide) ?_
                          exact hret ((bo ((4 * i) + 3)) - v9) cv9 _ _ _ _ (by
                            have hsn2 : lf < slN q v9 := by omega
                            have hkb := (slN_bd hok2 how.1).2.2 lf (by omega) hsn2
                            have hz9 := slAt_h (sd := sd) hi.1 hq (show q.2.1 = layer by omega) (by omega) hsn2
                            refine Or.inr (Or.inr ⟨hc0, ⟨hol, hos⟩, how, ?_⟩)
                            rw [hs, hz9]
                            unfold slS
                            first
                            | (rw [if_neg (by omega)]; rw [if_pos (by omega)]; omega)
                            | (rw [if_neg (by omega)]; rw [if_neg (by omega), if_pos (by omega)]; omega)
                            | (rw [if_neg (by omega)]; rw [if_neg (by omega), if_neg (by omega), if_pos (by omega)]; omega)
                            | (rw [if_neg (by omega)]; rw [if_neg (by omega), if_neg (by omega), if_neg (by omega)]; omega)) (hP.sub [2, 0, 1, 3] rfl) (hD.sub [2, 0, 1, 3] (by decide) rfl) hS dX5_slotAt_334
                      · skip
                        refine lv_aload_n hx hb dX5_slotAt_268 rfl (lv_at hl 4 rfl) ?_
                        refine va_get (D := D) (ci := 5) (v := .ref (md 7)) (C := RX5) (T := TX5) (N := 31) hx hb hts inX5 hown hK hP 2 rfl rfl 7 (by decide) f20 (fun _ h9 => h9) rfl dX5_slotAt_269 ?_
                        refine lv_iload hx hb dX5_slotAt_272 (lv_at hl 0 rfl) ?_
                        refine jv_iconst hx hb dX5_slotAt_274 ?_
                        refine jv_iadd hx hb dX5_slotAt_275 ?_
                        refine jv_iald hx hb hK hP 3 0 rfl rfl (i := ((4 * i) + 1)) ⟨by omega, by omega⟩ (Nat.le_of_ble_eq_true rfl) dX5_slotAt_276 ?_
                        refine lv_iload hx hb dX5_slotAt_277 (lv_at hl 9 rfl) ?_
                        refine jv_iadd hx hb dX5_slotAt_279 ?_
                        refine lv_goto (tgt := 334) hx hb dX5_slotAt_280 (by decide) ?_
                        exact hret ((bo ((4 * i) + 1)) + v9) cv9 _ _ _ _ (by
                          have hsn2 : lf < slN q v9 := by omega
                          have hkb := (slN_bd hok2 how.1).2.2 lf (by omega) hsn2
                          have hz9 := slAt_h (sd := sd) hi.1 hq (show q.2.1 = layer by omega) (by omega) hsn2
                          refine Or.inr (Or.inr ⟨hc0, ⟨hol, hos⟩, how, ?_⟩)
                          rw [hs, hz9]
                          unfold slS
                          first
                          | (rw [if_neg (by omega)]; rw [if_pos (by omega)]; omega)
                          | (rw [if_neg (by omega)]; rw [if_neg (by omega), if_pos (by omega)]; omega)
                          | (rw [if_neg (by omega)]; rw [if_neg (by omega), if_neg (by omega), if_pos (by omega)]; omega)
                          | (rw [if_neg (by omega)]; rw [if_neg (by omega), if_neg (by omega), if_neg (by omega)]; omega)) (hP.sub [2, 0, 1, 3] rfl) (hD.sub [2, 0, 1, 3] (by decide) rfl) hS dX5_slotAt_334
                    · skip
                      refine lv_iload hx hb dX5_slotAt_187 (lv_at hl 8 rfl) ?_
                      refine jv_if_ne (tgt := 205) hx hb ⟨by omega, by omega⟩ dX5_slotAt_189 (by decide) (fun c189 => ?_) (fun c189 => ?_)
                      · skip
                        refine lv_iload hx hb dX5_slotAt_205 (lv_at hl 8 rfl) ?_
                        refine jv_iconst hx hb dX5_slotAt_207 ?_
                        refine jv_icmp_ne (tgt := 226) hx hb ⟨by omega, by omega⟩ ⟨by decide, by decide⟩ dX5_slotAt_208 (by decide) (fun c208 => ?_) (fun c208 => ?_)
                        · skip
                          refine lv_iload hx hb dX5_slotAt_226 (lv_at hl 8 rfl) ?_
                          refine jv_iconst hx hb dX5_slotAt_228 ?_
                          refine jv_icmp_ne (tgt := 247) hx hb ⟨by omega, by omega⟩ ⟨by decide, by decide⟩ dX5_slotAt_229 (by decide) (fun c229 => ?_) (fun c229 => ?_)
                          · skip
                            refine lv_aload_n hx hb dX5_slotAt_247 rfl (lv_at hl 4 rfl) ?_
                            refine va_get (D := D) (ci := 5) (v := .ref (md 7)) (C := RX5) (T := TX5) (N := 31) hx hb hts inX5 hown hK hP 2 rfl rfl 7 (by decide) f20 (fun _ h9 => h9) rfl dX5_slotAt_248 ?_
                            refine lv_iload hx hb dX5_slotAt_251 (lv_at hl 0 rfl) ?_
                            refine jv_iconst hx hb dX5_slotAt_253 ?_
                            refine jv_iadd hx hb dX5_slotAt_254 ?_
                            refine jv_iald hx hb hK hP 3 0 rfl rfl (i := ((4 * i) + 1)) ⟨by omega, by omega⟩ (Nat.le_of_ble_eq_true rfl) dX5_slotAt_255 ?_
                            refine lv_iload hx hb dX5_slotAt_256 (lv_at hl 1 rfl) ?_
                            refine jv_iadd hx hb dX5_slotAt_258 ?_
                            refine jv_iconst hx hb dX5_slotAt_259 ?_
                            refine jv_iadd hx hb dX5_slotAt_260 ?_
                            exact hret (((bo ((4 * i) + 1)) + (v9 + (lf * (v9 + 2)))) + 2) cv9 _ _ _ _ (by
                              have hsn2 : lf < slN q v9 := by omega
                              have hkb := (slN_bd hok2 how.1).2.2 lf (by omega) hsn2
                              have hz9 := slAt_h (sd := sd) hi.1 hq (show q.2.1 = layer by omega) (by omega) hsn2
                              refine Or.inr (Or.inr ⟨hc0, ⟨hol, hos⟩, how, ?_⟩)
                              rw [hs, hz9]
                              unfold slS
                              first
                              | (rw [if_pos (by omega)]; rw [if_pos (by omega)]; omega)
                              | (rw [if_pos (by omega)]; rw [if_neg (by omega), if_pos (by omega)]; omega)
                              | (rw [if_pos (by omega)]; rw [if_neg (by omega), if_neg (by omega), if_pos (by omega)]; omega)
                              | (rw [if_pos (by omega)]; rw [if_neg (by omega), if_neg (by omega), if_neg (by omega)]; omega)) (hP.sub [2, 0, 1, 3] rfl) (hD.sub [2, 0, 1, 3] (by decide) rfl) hS dX5_slotAt_261
                          · skip
                            refine lv_aload_n hx hb dX5_slotAt_232 rfl (lv_at hl 4 rfl) ?_
                            refine va_get (D := D) (ci := 5) (v := .ref (md 7)) (C := RX5) (T := TX5) (N := 31) hx hb hts inX5 hown hK hP 2 rfl rfl 7 (by decide) f20 (fun _ h9 => h9) rfl dX5_slotAt_233 ?_
                            refine lv_iload hx hb dX5_slotAt_236 (lv_at hl 0 rfl) ?_
                            refine jv_iconst hx hb dX5_slotAt_238 ?_
                            refine jv_iadd hx hb dX5_slotAt_239 ?_
                            refine jv_iald hx hb hK hP 3 0 rfl rfl (i := ((4 * i) + 1)) ⟨by omega, by omega⟩ (Nat.le_of_ble_eq_true rfl) dX5_slotAt_240 ?_
                            refine lv_iload hx hb dX5_slotAt_241 (lv_at hl 1 rfl) ?_
                            refine jv_iadd hx hb dX5_slotAt_243 ?_
                            refine lv_goto (tgt := 261) hx hb dX5_slotAt_244 (by decide) ?_
                            exact hret ((bo ((4 * i) + 1)) + (v9 + (lf * (v9 + 2)))) cv9 _ _ _ _ (by
                              have hsn2 : lf < slN q v9 := by omega
                              have hkb := (slN_bd hok2 how.1).2.2 lf (by omega) hsn2
                              have hz9 := slAt_h (sd := sd) hi.1 hq (show q.2.1 = layer by omega) (by omega) hsn2
                              refine Or.inr (Or.inr ⟨hc0, ⟨hol, hos⟩, how, ?_⟩)
                              rw [hs, hz9]
                              unfold slS
                              first
                              | (rw [if_pos (by omega)]; rw [if_pos (by omega)]; omega)
                              | (rw [if_pos (by omega)]; rw [if_neg (by omega), if_pos (by omega)]; omega)
                              | (rw [if_pos (by omega)]; rw [if_neg (by omega), if_neg (by omega), if_pos (by omega)]; omega)
                              | (rw [if_pos (by omega)]; rw [if_neg (by omega), if_neg (by omega), if_neg (by omega)]; omega)) (hP.sub [2, 0, 1, 3] rfl) (hD.sub [2, 0, 1, 3] (by decide) rfl) hS dX5_slotAt_261
                        · skip
                          refine lv_aload_n hx hb dX5_slotAt_211 rfl (lv_at hl 4 rfl) ?_
                          refine va_get (D := D) (ci := 5) (v := .ref (md 7)) (C := RX5) (T := TX5) (N := 31) hx hb hts inX5 hown hK hP 2 rfl rfl 7 (by decide) f20 (fun _ h9 => h9) rfl dX5_slotAt_212 ?_
                          refine lv_iload hx hb dX5_slotAt_215 (lv_at hl 0 rfl) ?_
                          refine jv_iconst hx hb dX5_slotAt_217 ?_
                          refine jv_iadd hx hb dX5_slotAt_218 ?_
                          refine jv_iald hx hb hK hP 3 0 rfl rfl (i := ((4 * i) + 2)) ⟨by omega, by omega⟩ (Nat.le_of_ble_eq_true rfl) dX5_slotAt_219 ?_
                          refine lv_iload hx hb dX5_slotAt_220 (lv_at hl 9 rfl) ?_
                          refine jv_isub hx hb dX5_slotAt_222 ?_
                          refine lv_goto (tgt := 261) hx hb dX5_slotAt_223 (by decide) ?_
                          exact hret ((bo ((4 * i) + 2)) - v9) cv9 _ _ _ _ (by
                            have hsn2 : lf < slN q v9 := by omega
                            have hkb := (slN_bd hok2 how.1).2.2 lf (by omega) hsn2
                            have hz9 := slAt_h (sd := sd) hi.1 hq (show q.2.1 = layer by omega) (by omega) hsn2
                            refine Or.inr (Or.inr ⟨hc0, ⟨hol, hos⟩, how, ?_⟩)
                            rw [hs, hz9]
                            unfold slS
                            first
                            | (rw [if_pos (by omega)]; rw [if_pos (by omega)]; omega)
                            | (rw [if_pos (by omega)]; rw [if_neg (by omega), if_pos (by omega)]; omega)
                            | (rw [if_pos (by omega)]; rw [if_neg (by omega), if_neg (by omega), if_pos (by omega)]; omega)
                            | (rw [if_pos (by omega)]; rw [if_neg (by omega), if_neg (by omega), if_neg (by omega)]; omega)) (hP.sub [2, 0, 1, 3] rfl) (hD.sub [2, 0, 1, 3] (by decide) rfl) hS dX5_slotAt_261
                      · skip
                        refine lv_aload_n hx hb dX5_slotAt_192 rfl (lv_at hl 4 rfl) ?_
                        refine va_get (D := D) (ci := 5) (v := .ref (md 7)) (C := RX5) (T := TX5) (N := 31) hx hb hts inX5 hown hK hP 2 rfl rfl 7 (by decide) f20 (fun _ h9 => h9) rfl dX5_slotAt_193 ?_
                        refine lv_iload hx hb dX5_slotAt_196 (lv_at hl 0 rfl) ?_
                        refine jv_iald hx hb hK hP 3 0 rfl rfl (i := (4 * i)) ⟨by omega, by omega⟩ (Nat.le_of_ble_eq_true rfl) dX5_slotAt_198 ?_
                        refine lv_iload hx hb dX5_slotAt_199 (lv_at hl 9 rfl) ?_
                        refine jv_iadd hx hb dX5_slotAt_201 ?_
                        refine lv_goto (tgt := 261) hx hb dX5_slotAt_202 (by decide) ?_
                        exact hret ((bo (4 * i)) + v9) cv9 _ _ _ _ (by
                          have hsn2 : lf < slN q v9 := by omega
                          have hkb := (slN_bd hok2 how.1).2.2 lf (by omega) hsn2
                          have hz9 := slAt_h (sd := sd) hi.1 hq (show q.2.1 = layer by omega) (by omega) hsn2
                          refine Or.inr (Or.inr ⟨hc0, ⟨hol, hos⟩, how, ?_⟩)
                          rw [hs, hz9]
                          unfold slS
                          first
                          | (rw [if_pos (by omega)]; rw [if_pos (by omega)]; omega)
                          | (rw [if_pos (by omega)]; rw [if_neg (by omega), if_pos (by omega)]; omega)
                          | (rw [if_pos (by omega)]; rw [if_neg (by omega), if_neg (by omega), if_pos (by omega)]; omega)
                          | (rw [if_pos (by omega)]; rw [if_neg (by omega), if_neg (by omega), if_neg (by omega)]; omega)) (hP.sub [2, 0, 1, 3] rfl) (hD.sub [2, 0, 1, 3] (by decide) rfl) hS dX5_slotAt_261
                  · skip
                    refine jv_iconst hx hb dX5_slotAt_157 ?_
                    refine lv_goto (tgt := 162) hx hb dX5_slotAt_158 (by decide) ?_
                    refine lv_istore (lv' := [(10, .int (jI 1)), (9, .int (jI sn9)), (0, .ref hm), (1, .int (jI layer)), (2, .long (jL v9)), (4, .int (jI k9)), (5, .int (jI sd)), (6, .int (jI v9)), (7, .int (jI lf)), (8, .int (jI i))]) hx hb dX5_slotAt_162 hl (by decide) rfl (fun ls hl => ?_)
                    refine lv_iload hx hb dX5_slotAt_164 (lv_at hl 7 rfl) ?_
                    refine lv_iload hx hb dX5_slotAt_166 (lv_at hl 8 rfl) ?_
                    refine lv_iload hx hb dX5_slotAt_168 (lv_at hl 7 rfl) ?_
                    refine jv_iconst hx hb dX5_slotAt_170 ?_
                    refine jv_iadd hx hb dX5_slotAt_171 ?_
                    refine jv_imul hx hb dX5_slotAt_172 ?_
                    refine jv_iadd hx hb dX5_slotAt_173 ?_
                    refine lv_istore (lv' := [(11, .int (jI (v9 + (lf * (v9 + 2))))), (10, .int (jI 1)), (9, .int (jI sn9)), (0, .ref hm), (1, .int (jI layer)), (2, .long (jL v9)), (4, .int (jI k9)), (5, .int (jI sd)), (6, .int (jI v9)), (7, .int (jI lf)), (8, .int (jI i))]) hx hb dX5_slotAt_174 hl (by decide) rfl (fun ls hl => ?_)
                    refine jv_iconst hx hb dX5_slotAt_176 ?_
                    refine lv_iload hx hb dX5_slotAt_177 (lv_at hl 10 rfl) ?_
                    refine jv_imul hx hb dX5_slotAt_179 ?_
                    refine lv_istore (lv' := [(12, .int (jI (4 * i))), (11, .int (jI (v9 + (lf * (v9 + 2))))), (10, .int (jI 1)), (9, .int (jI sn9)), (0, .ref hm), (1, .int (jI layer)), (2, .long (jL v9)), (4, .int (jI k9)), (5, .int (jI sd)), (6, .int (jI v9)), (7, .int (jI lf)), (8, .int (jI i))]) hx hb dX5_slotAt_180 hl (by decide) rfl (fun ls hl => ?_)
                    refine lv_iload hx hb dX5_slotAt_182 (lv_at hl 2 rfl) ?_
                    refine jv_if_eq (tgt := 262) hx hb ⟨by decide, by decide⟩ dX5_slotAt_184 (by decide) (fun c184 => ?_) (fun c184 => ?_)
                    · skip
                      refine lv_iload hx hb dX5_slotAt_262 (lv_at hl 8 rfl) ?_
                      refine jv_iconst hx hb dX5_slotAt_264 ?_
                      refine jv_icmp_ne (tgt := 283) hx hb ⟨by omega, by omega⟩ ⟨by decide, by decide⟩ dX5_slotAt_265 (by decide) (fun c265 => ?_) (fun c265 => ?_)
                      · skip
                        refine lv_iload hx hb dX5_slotAt_283 (lv_at hl 8 rfl) ?_
                        refine jv_iconst hx hb dX5_slotAt_285 ?_
                        refine jv_icmp_ne (tgt := 304) hx hb ⟨by omega, by omega⟩ ⟨by decide, by decide⟩ dX5_slotAt_286 (by decide) (fun c286 => ?_) (fun c286 => ?_)
                        · skip
                          refine lv_iload hx hb dX5_slotAt_304 (lv_at hl 8 rfl) ?_
                          refine jv_if_ne (tgt := 322) hx hb ⟨by omega, by omega⟩ dX5_slotAt_306 (by decide) (fun c306 => ?_) (fun c306 => ?_)
                          · skip
                            refine lv_aload_n hx hb dX5_slotAt_322 rfl (lv_at hl 4 rfl) ?_
                            refine va_get (D := D) (ci := 5) (v := .ref (md 7)) (C := RX5) (T := TX5) (N := 31) hx hb hts inX5 hown hK hP 2 rfl rfl 7 (by decide) f20 (fun _ h9 => h9) rfl dX5_slotAt_323 ?_
                            refine lv_iload hx hb dX5_slotAt_326 (lv_at hl 0 rfl) ?_
                            refine jv_iald hx hb hK hP 3 0 rfl rfl (i := (4 * i)) ⟨by omega, by omega⟩ (Nat.le_of_ble_eq_true rfl) dX5_slotAt_328 ?_
                            refine lv_iload hx hb dX5_slotAt_329 (lv_at hl 1 rfl) ?_
                            refine jv_iadd hx hb dX5_slotAt_331 ?_
                            refine jv_iconst hx hb dX5_slotAt_332 ?_
                            refine jv_iadd hx hb dX5_slotAt_333 ?_
                            exact hret (((bo (4 * i)) + (v9 + (lf * (v9 + 2)))) + 2) cv9 _ _ _ _ (by
                              have hsn2 : lf < slN q v9 := by omega
                              have hkb := (slN_bd hok2 how.1).2.2 lf (by omega) hsn2
                              have hz9 := slAt_h (sd := sd) hi.1 hq (show q.2.1 = layer by omega) (by omega) hsn2
                              refine Or.inr (Or.inr ⟨hc0, ⟨hol, hos⟩, how, ?_⟩)
                              rw [hs, hz9]
                              unfold slS
                              first
                              | (rw [if_neg (by omega)]; rw [if_pos (by omega)]; omega)
                              | (rw [if_neg (by omega)]; rw [if_neg (by omega), if_pos (by omega)]; omega)
                              | (rw [if_neg (by omega)]; rw [if_neg (by omega), if_neg (by omega), if_pos (by omega)]; omega)
                              | (rw [if_neg (by omega)]; rw [if_neg (by omega), if_neg (by omega), if_neg (by omega)]; omega)) (hP.sub [2, 0, 1, 3] rfl) (hD.sub [2, 0, 1, 3] (by decide) rfl) hS dX5_slotAt_334
                          · skip
                            refine lv_aload_n hx hb dX5_slotAt_309 rfl (lv_at hl 4 rfl) ?_
                            refine va_get (D := D) (ci := 5) (v := .ref (md 7)) (C := RX5) (T := TX5) (N := 31) hx hb hts inX5 hown hK hP 2 rfl rfl 7 (by decide) f20 (fun _ h9 => h9) rfl dX5_slotAt_310 ?_
                            refine lv_iload hx hb dX5_slotAt_313 (lv_at hl 0 rfl) ?_
                            refine jv_iald hx hb hK hP 3 0 rfl rfl (i := (4 * i)) ⟨by omega, by omega⟩ (Nat.le_of_ble_eq_true rfl) dX5_slotAt_315 ?_
                            refine lv_iload hx hb dX5_slotAt_316 (lv_at hl 1 rfl) ?_
                            refine jv_iadd hx hb dX5_slotAt_318 ?_
                            refine lv_goto (tgt := 334) hx hb dX5_slotAt_319 (by decide) ?_
                            exact hret ((bo (4 * i)) + (v9 + (lf * (v9 + 2)))) cv9 _ _ _ _ (by
                              have hsn2 : lf < slN q v9 := by omega
                              have hkb := (slN_bd hok2 how.1).2.2 lf (by omega) hsn2
                              have hz9 := slAt_h (sd := sd) hi.1 hq (show q.2.1 = layer by omega) (by omega) hsn2
                              refine Or.inr (Or.inr ⟨hc0, ⟨hol, hos⟩, how, ?_⟩)
                              rw [hs, hz9]
                              unfold slS
                              first
                              | (rw [if_neg (by omega)]; rw [if_pos (by omega)]; omega)
                              | (rw [if_neg (by omega)]; rw [if_neg (by omega), if_pos (by omega)]; omega)
                              | (rw [if_neg (by omega)]; rw [if_neg (by omega), if_neg (by omega), if_pos (by omega)]; omega)
                              | (rw [if_neg (by omega)]; rw [if_neg (by omega), if_neg (by omega), if_neg (by omega)]; omega)) (hP.sub [2, 0, 1, 3] rfl) (hD.sub [2, 0, 1, 3] (by decide) rfl) hS dX5_slotAt_334
                        · skip
                          refine lv_aload_n hx hb dX5_slotAt_289 rfl (lv_at hl 4 rfl) ?_
                          refine va_get (D := D) (ci := 5) (v := .ref (md 7)) (C := RX5) (T := TX5) (N := 31) hx hb hts inX5 hown hK hP 2 rfl rfl 7 (by decide) f20 (fun _ h9 => h9) rfl dX5_slotAt_290 ?_
                          refine lv_iload hx hb dX5_slotAt_293 (lv_at hl 0 rfl) ?_
                          refine jv_iconst hx hb dX5_slotAt_295 ?_
                          refine jv_iadd hx hb dX5_slotAt_296 ?_
                          refine jv_iald hx hb hK hP 3 0 rfl rfl (i := ((4 * i) + 3)) ⟨by omega, by omega⟩ (Nat.le_of_ble_eq_true rfl) dX5_slotAt_297 ?_
                          refine lv_iload hx hb dX5_slotAt_298 (lv_at hl 9 rfl) ?_
                          refine jv_isub hx hb dX5_slotAt_300 ?_
                          refine lv_goto (tgt := 334) hx hb dX5_slotAt_301 (by decide) ?_
                          exact hret ((bo ((4 * i) + 3)) - v9) cv9 _ _ _ _ (by
                            have hsn2 : lf < slN q v9 := by omega
                            have hkb := (slN_bd hok2 how.1).2.2 lf (by omega) hsn2
                            have hz9 := slAt_h (sd := sd) hi.1 hq (show q.2.1 = layer by omega) (by omega) hsn2
                            refine Or.inr (Or.inr ⟨hc0, ⟨hol, hos⟩, how, ?_⟩)
                            rw [hs, hz9]
                            unfold slS
                            first
                            | (rw [if_neg (by omega)]; rw [if_pos (by omega)]; omega)
                            | (rw [if_neg (by omega)]; rw [if_neg (by omega), if_pos (by omega)]; omega)
                            | (rw [if_neg (by omega)]; rw [if_neg (by omega), if_neg (by omega), if_pos (by omega)]; omega)
                            | (rw [if_neg (by omega)]; rw [if_neg (by omega), if_neg (by omega), if_neg (by omega)]; omega)) (hP.sub [2, 0, 1, 3] rfl) (hD.sub [2, 0, 1, 3] (by decide) rfl) hS dX5_slotAt_334
                      · skip
                        refine lv_aload_n hx hb dX5_slotAt_268 rfl (lv_at hl 4 rfl) ?_
                        refine va_get (D := D) (ci := 5) (v := .ref (md 7)) (C := RX5) (T := TX5) (N := 31) hx hb hts inX5 hown hK hP 2 rfl rfl 7 (by decide) f20 (fun _ h9 => h9) rfl dX5_slotAt_269 ?_
                        refine lv_iload hx hb dX5_slotAt_272 (lv_at hl 0 rfl) ?_
                        refine jv_iconst hx hb dX5_slotAt_274 ?_
                        refine jv_iadd hx hb dX5_slotAt_275 ?_
                        refine jv_iald hx hb hK hP 3 0 rfl rfl (i := ((4 * i) + 1)) ⟨by omega, by omega⟩ (Nat.le_of_ble_eq_true rfl) dX5_slotAt_276 ?_
                        refine lv_iload hx hb dX5_slotAt_277 (lv_at hl 9 rfl) ?_
                        refine jv_iadd hx hb dX5_slotAt_279 ?_
                        refine lv_goto (tgt := 334) hx hb dX5_slotAt_280 (by decide) ?_
                        exact hret ((bo ((4 * i) + 1)) + v9) cv9 _ _ _ _ (by
                          have hsn2 : lf < slN q v9 := by omega
                          have hkb := (slN_bd hok2 how.1).2.2 lf (by omega) hsn2
                          have hz9 := slAt_h (sd := sd) hi.1 hq (show q.2.1 = layer by omega) (by omega) hsn2
                          refine Or.inr (Or.inr ⟨hc0, ⟨hol, hos⟩, how, ?_⟩)
                          rw [hs, hz9]
                          unfold slS
                          first
                          | (rw [if_neg (by omega)]; rw [if_pos (by omega)]; omega)
                          | (rw [if_neg (by omega)]; rw [if_neg (by omega), if_pos (by omega)]; omega)
                          | (rw [if_neg (by omega)]; rw [if_neg (by omega), if_neg (by omega), if_pos (by omega)]; omega)
                          | (rw [if_neg (by omega)]; rw [if_neg (by omega), if_neg (by omega), if_neg (by omega)]; omega)) (hP.sub [2, 0, 1, 3] rfl) (hD.sub [2, 0, 1, 3] (by decide) rfl) hS dX5_slotAt_334
                    · skip
                      refine lv_iload hx hb dX5_slotAt_187 (lv_at hl 8 rfl) ?_
                      refine jv_if_ne (tgt := 205) hx hb ⟨by omega, by omega⟩ dX5_slotAt_189 (by decide) (fun c189 => ?_) (fun c189 => ?_)
                      · skip
                        refine lv_iload hx hb dX5_slotAt_205 (lv_at hl 8 rfl) ?_
                        refine jv_iconst hx hb dX5_slotAt_207 ?_
                        refine jv_icmp_ne (tgt := 226) hx hb ⟨by omega, by omega⟩ ⟨by decide, by decide⟩ dX5_slotAt_208 (by decide) (fun c208 => ?_) (fun c208 => ?_)
                        · skip
                          refine lv_iload hx hb dX5_slotAt_226 (lv_at hl 8 rfl) ?_
                          refine jv_iconst hx hb dX5_slotAt_228 ?_
                          refine jv_icmp_ne (tgt := 247) hx hb ⟨by omega, by omega⟩ ⟨by decide, by decide⟩ dX5_slotAt_229 (by decide) (fun c229 => ?_) (fun c229 => ?_)
                          · skip
                            refine lv_aload_n hx hb dX5_slotAt_247 rfl (lv_at hl 4 rfl) ?_
                            refine va_get (D := D) (ci := 5) (v := .ref (md 7)) (C := RX5) (T := TX5) (N := 31) hx hb hts inX5 hown hK hP 2 rfl rfl 7 (by decide) f20 (fun _ h9 => h9) rfl dX5_slotAt_248 ?_
                            refine lv_iload hx hb dX5_slotAt_251 (lv_at hl 0 rfl) ?_
                            refine jv_iconst hx hb dX5_slotAt_253 ?_
                            refine jv_iadd hx hb dX5_slotAt_254 ?_
                            refine jv_iald hx hb hK hP 3 0 rfl rfl (i := ((4 * i) + 1)) ⟨by omega, by omega⟩ (Nat.le_of_ble_eq_true rfl) dX5_slotAt_255 ?_
                            refine lv_iload hx hb dX5_slotAt_256 (lv_at hl 1 rfl) ?_
                            refine jv_iadd hx hb dX5_slotAt_258 ?_
                            refine jv_iconst hx hb dX5_slotAt_259 ?_
                            refine jv_iadd hx hb dX5_slotAt_260 ?_
                            exact hret (((bo ((4 * i) + 1)) + (v9 + (lf * (v9 + 2)))) + 2) cv9 _ _ _ _ (by
                              have hsn2 : lf < slN q v9 := by omega
                              have hkb := (slN_bd hok2 how.1).2.2 lf (by omega) hsn2
                              have hz9 := slAt_h (sd := sd) hi.1 hq (show q.2.1 = layer by omega) (by omega) hsn2
                              refine Or.inr (Or.inr ⟨hc0, ⟨hol, hos⟩, how, ?_⟩)
                              rw [hs, hz9]
                              unfold slS
                              first
                              | (rw [if_pos (by omega)]; rw [if_pos (by omega)]; omega)
                              | (rw [if_pos (by omega)]; rw [if_neg (by omega), if_pos (by omega)]; omega)
                              | (rw [if_pos (by omega)]; rw [if_neg (by omega), if_neg (by omega), if_pos (by omega)]; omega)
                              | (rw [if_pos (by omega)]; rw [if_neg (by omega), if_neg (by omega), if_neg (by omega)]; omega)) (hP.sub [2, 0, 1, 3] rfl) (hD.sub [2, 0, 1, 3] (by decide) rfl) hS dX5_slotAt_261
                          · skip
                            refine lv_aload_n hx hb dX5_slotAt_232 rfl (lv_at hl 4 rfl) ?_
                            refine va_get (D := D) (ci := 5) (v := .ref (md 7)) (C := RX5) (T := TX5) (N := 31) hx hb hts inX5 hown hK hP 2 rfl rfl 7 (by decide) f20 (fun _ h9 => h9) rfl dX5_slotAt_233 ?_
                            refine lv_iload hx hb dX5_slotAt_236 (lv_at hl 0 rfl) ?_
                            refine jv_iconst hx hb dX5_slotAt_238 ?_
                            refine jv_iadd hx hb dX5_slotAt_239 ?_
                            refine jv_iald hx hb hK hP 3 0 rfl rfl (i := ((4 * i) + 1)) ⟨by omega, by omega⟩ (Nat.le_of_ble_eq_true rfl) dX5_slotAt_240 ?_
                            refine lv_iload hx hb dX5_slotAt_241 (lv_at hl 1 rfl) ?_
                            refine jv_iadd hx hb dX5_slotAt_243 ?_
                            refine lv_goto (tgt := 261) hx hb dX5_slotAt_244 (by decide) ?_
                            exact hret ((bo ((4 * i) + 1)) + (v9 + (lf * (v9 + 2)))) cv9 _ _ _ _ (by
                              have hsn2 : lf < slN q v9 := by omega
                              have hkb := (slN_bd hok2 how.1).2.2 lf (by omega) hsn2
                              have hz9 := slAt_h (sd := sd) hi.1 hq (show q.2.1 = layer by omega) (by omega) hsn2
                              refine Or.inr (Or.inr ⟨hc0, ⟨hol, hos⟩, how, ?_⟩)
                              rw [hs, hz9]
                              unfold slS
                              first
                              | (rw [if_pos (by omega)]; rw [if_pos (by omega)]; omega)
                              | (rw [if_pos (by omega)]; rw [if_neg (by omega), if_pos (by omega)]; omega)
                              | (rw [if_pos (by omega)]; rw [if_neg (by omega), if_neg (by omega), if_pos (by omega)]; omega)
                              | (rw [if_pos (by omega)]; rw [if_neg (by omega), if_neg (by omega), if_neg (by omega)]; omega)) (hP.sub [2, 0, 1, 3] rfl) (hD.sub [2, 0, 1, 3] (by decide) rfl) hS dX5_slotAt_261
                        · skip
                          refine lv_aload_n hx hb dX5_slotAt_211 rfl (lv_at hl 4 rfl) ?_
                          refine va_get (D := D) (ci := 5) (v := .ref (md 7)) (C := RX5) (T := TX5) (N := 31) hx hb hts inX5 hown hK hP 2 rfl rfl 7 (by decide) f20 (fun _ h9 => h9) rfl dX5_slotAt_212 ?_
                          refine lv_iload hx hb dX5_slotAt_215 (lv_at hl 0 rfl) ?_
                          refine jv_iconst hx hb dX5_slotAt_217 ?_
                          refine jv_iadd hx hb dX5_slotAt_218 ?_
                          refine jv_iald hx hb hK hP 3 0 rfl rfl (i := ((4 * i) + 2)) ⟨by omega, by omega⟩ (Nat.le_of_ble_eq_true rfl) dX5_slotAt_219 ?_
                          refine lv_iload hx hb dX5_slotAt_220 (lv_at hl 9 rfl) ?_
                          refine jv_isub hx hb dX5_slotAt_222 ?_
                          refine lv_goto (tgt := 261) hx hb dX5_slotAt_223 (by decide) ?_
                          exact hret ((bo ((4 * i) + 2)) - v9) cv9 _ _ _ _ (by
                            have hsn2 : lf < slN q v9 := by omega
                            have hkb := (slN_bd hok2 how.1).2.2 lf (by omega) hsn2
                            have hz9 := slAt_h (sd := sd) hi.1 hq (show q.2.1 = layer by omega) (by omega) hsn2
                            refine Or.inr (Or.inr ⟨hc0, ⟨hol, hos⟩, how, ?_⟩)
                            rw [hs, hz9]
                            unfold slS
                            first
                            | (rw [if_pos (by omega)]; rw [if_pos (by omega)]; omega)
                            | (rw [if_pos (by omega)]; rw [if_neg (by omega), if_pos (by omega)]; omega)
                            | (rw [if_pos (by omega)]; rw [if_neg (by omega), if_neg (by omega), if_pos (by omega)]; omega)
                            | (rw [if_pos (by omega)]; rw [if_neg (by omega), if_neg (by omega), if_neg (by omega)]; omega)) (hP.sub [2, 0, 1, 3] rfl) (hD.sub [2, 0, 1, 3] (by decide) rfl) hS dX5_slotAt_261
                      · skip
                        refine lv_aload_n hx hb dX5_slotAt_192 rfl (lv_at hl 4 rfl) ?_
                        refine va_get (D := D) (ci := 5) (v := .ref (md 7)) (C := RX5) (T := TX5) (N := 31) hx hb hts inX5 hown hK hP 2 rfl rfl 7 (by decide) f20 (fun _ h9 => h9) rfl dX5_slotAt_193 ?_
                        refine lv_iload hx hb dX5_slotAt_196 (lv_at hl 0 rfl) ?_
                        refine jv_iald hx hb hK hP 3 0 rfl rfl (i := (4 * i)) ⟨by omega, by omega⟩ (Nat.le_of_ble_eq_true rfl) dX5_slotAt_198 ?_
                        refine lv_iload hx hb dX5_slotAt_199 (lv_at hl 9 rfl) ?_
                        refine jv_iadd hx hb dX5_slotAt_201 ?_
                        refine lv_goto (tgt := 261) hx hb dX5_slotAt_202 (by decide) ?_
                        exact hret ((bo (4 * i)) + v9) cv9 _ _ _ _ (by
                          have hsn2 : lf < slN q v9 := by omega
                          have hkb := (slN_bd hok2 how.1).2.2 lf (by omega) hsn2
                          have hz9 := slAt_h (sd := sd) hi.1 hq (show q.2.1 = layer by omega) (by omega) hsn2
                          refine Or.inr (Or.inr ⟨hc0, ⟨hol, hos⟩, how, ?_⟩)
                          rw [hs, hz9]
                          unfold slS
                          first
                          | (rw [if_pos (by omega)]; rw [if_pos (by omega)]; omega)
                          | (rw [if_pos (by omega)]; rw [if_neg (by omega), if_pos (by omega)]; omega)
                          | (rw [if_pos (by omega)]; rw [if_neg (by omega), if_neg (by omega), if_pos (by omega)]; omega)
                          | (rw [if_pos (by omega)]; rw [if_neg (by omega), if_neg (by omega), if_neg (by omega)]; omega)) (hP.sub [2, 0, 1, 3] rfl) (hD.sub [2, 0, 1, 3] (by decide) rfl) hS dX5_slotAt_261
    have hcr9 : 0 ≤ cv9 ∧ cv9 ≤ 2 := by rcases hcv with q9 | q9 | q9 <;> (have q8 := q9.1; clear q9; omega)
    refine va_put (D := D) (ci := 5) (v := .int (jI cv9)) (ty := .int) (C := RX5) (T := TX5) (N := 31) hx hb hts inX5 tyX5 tyX5_ok nmX5 hown hK hP hD hS 0 rfl rfl 0 (by decide) f84 (fun _ h9 => h9) rfl (by decide +kernel) rfl rfl (Nat.le_of_ble_eq_true rfl) dX5_slotAt_43 (fun H locs hP hD hS => ?_)
    have hP : va_P D jcl [(hm, .inr (5, [.int (jI cv9), .int (jI ly), .int (jI nt), .ref (md 3), .int (jI ns), .ref (md 5), .ref (md 6), .ref (md 7), .int (jI nd), .ref (md 9), .ref (md 10), .ref (md 11), .int (jI np), .ref (md 13), .ref (md 14), .ref (md 15), .ref (md 16), .ref (md 17), .ref (md 18), .ref (md 19), .ref (md 20), .int (jI nq), .ref (md 22), .ref (md 23), .ref (md 24), .ref (md 25), .ref (md 26), .int (jI tq), .ref (md 28), .ref (md 29), .ref (md 30)])), ((md 5), .inl (g.1, 200, .inl (aI sn))), ((md 6), .inl (g.1, 200, .inl (aI sl))), ((md 7), .inl (g.1, 800, .inl (aI bo)))] H := hP
    have hD : va_D A [(hm, .inr (5, [.int (jI cv9), .int (jI ly), .int (jI nt), .ref (md 3), .int (jI ns), .ref (md 5), .ref (md 6), .ref (md 7), .int (jI nd), .ref (md 9), .ref (md 10), .ref (md 11), .int (jI np), .ref (md 13), .ref (md 14), .ref (md 15), .ref (md 16), .ref (md 17), .ref (md 18), .ref (md 19), .ref (md 20), .int (jI nq), .ref (md 22), .ref (md 23), .ref (md 24), .ref (md 25), .ref (md 26), .int (jI tq), .ref (md 28), .ref (md 29), .ref (md 30)])), ((md 5), .inl (g.1, 200, .inl (aI sn))), ((md 6), .inl (g.1, 200, .inl (aI sl))), ((md 7), .inl (g.1, 800, .inl (aI bo)))] := hD
    refine lv_lload_n hx hb dX5_slotAt_46 rfl (lv_at hl 2 rfl) ?_
    refine jv_l2i hx hb dX5_slotAt_47 ?_
    refine lv_istore (lv' := [(6, .int (jI v9)), (0, .ref hm), (1, .int (jI layer)), (2, .long (jL v9)), (4, .int (jI k9)), (5, .int (jI sd))]) hx hb dX5_slotAt_48 hl (by decide) rfl (fun ls hl => ?_)
    refine lv_iload hx hb dX5_slotAt_50 (lv_at hl 4 rfl) ?_
    refine lv_istore (lv' := [(7, .int (jI k9)), (6, .int (jI v9)), (0, .ref hm), (1, .int (jI layer)), (2, .long (jL v9)), (4, .int (jI k9)), (5, .int (jI sd))]) hx hb dX5_slotAt_52 hl (by decide) rfl (fun ls hl => ?_)
    refine jv_iconst hx hb dX5_slotAt_54 ?_
    refine lv_istore (lv' := [(8, .int (jI 0)), (7, .int (jI k9)), (6, .int (jI v9)), (0, .ref hm), (1, .int (jI layer)), (2, .long (jL v9)), (4, .int (jI k9)), (5, .int (jI sd))]) hx hb dX5_slotAt_55 hl (by decide) rfl (fun ls hl => ?_)
    exact LS ((ns + 1 - 0).toNat + 1) 0 k9 (by omega) (by omega) (rfl) (by omega) _ _ _ (hP.sub [0, 1, 2, 3] rfl) (hD.sub [0, 1, 2, 3] (by decide) rfl) hS (lv_sub hl [3, 4, 5, 6, 7, 2, 1, 0] rfl)
  refine lv_aload_n hx hb dX5_slotAt_0 rfl (lv_at hl 0 rfl) ?_
  refine lv_aload_n hx hb dX5_slotAt_1 rfl (lv_at hl 0 rfl) ?_
  refine lv_iload_n hx hb dX5_slotAt_2 rfl (lv_at hl 1 rfl) ?_
  refine jc_Vi (As := [.int (jI layer)]) (rest := [.ref hm]) (wq := [((md 5), .inl (g.1, 200, .inl (aI sn))), ((md 6), .inl (g.1, 200, .inl (aI sl))), ((md 7), .inl (g.1, 800, .inl (aI bo)))]) ⟨hx, hb, hml, hown, hts⟩ (tX5_isLayer l D g hm md co ly nt ns nd np nq tq layer (⟨⟨by omega, by omega⟩, by omega, by omega⟩)) (cwV 1 hts gX5_slotAt_X5_isLayer rfl rfl rfl (by decide +kernel) ⟨Nat.le_of_ble_eq_true rfl, Nat.le_of_ble_eq_true rfl⟩) hK hP hD hS hA [0] [1, 2, 3] rfl rfl (by decide) (by decide) (by decide) (va_recv hK hP (ci := 5) (q0 := 0) rfl rfl) rfl rfl hl.1 (Nat.le_of_ble_eq_true rfl) dX5_slotAt_3 ⟨Nat.le_of_ble_eq_true rfl, Nat.le_of_ble_eq_true rfl⟩ (fun zl9 u H locs hu hP hD hS => ?_)
  have hu : (zl9 = 1 ∧ (0 ≤ layer ∧ layer < ly)) ∨ (zl9 = 0 ∧ ¬ (0 ≤ layer ∧ layer < ly)) := hu
  have hzl := hu
  have hP : va_P D jcl [((md 5), .inl (g.1, 200, .inl (aI sn))), ((md 6), .inl (g.1, 200, .inl (aI sl))), ((md 7), .inl (g.1, 800, .inl (aI bo))), (hm, .inr (5, [.int (jI co), .int (jI ly), .int (jI nt), .ref (md 3), .int (jI ns), .ref (md 5), .ref (md 6), .ref (md 7), .int (jI nd), .ref (md 9), .ref (md 10), .ref (md 11), .int (jI np), .ref (md 13), .ref (md 14), .ref (md 15), .ref (md 16), .ref (md 17), .ref (md 18), .ref (md 19), .ref (md 20), .int (jI nq), .ref (md 22), .ref (md 23), .ref (md 24), .ref (md 25), .ref (md 26), .int (jI tq), .ref (md 28), .ref (md 29), .ref (md 30)]))] H := hP
  have hD : va_D A [((md 5), .inl (g.1, 200, .inl (aI sn))), ((md 6), .inl (g.1, 200, .inl (aI sl))), ((md 7), .inl (g.1, 800, .inl (aI bo))), (hm, .inr (5, [.int (jI co), .int (jI ly), .int (jI nt), .ref (md 3), .int (jI ns), .ref (md 5), .ref (md 6), .ref (md 7), .int (jI nd), .ref (md 9), .ref (md 10), .ref (md 11), .int (jI np), .ref (md 13), .ref (md 14), .ref (md 15), .ref (md 16), .ref (md 17), .ref (md 18), .ref (md 19), .ref (md 20), .int (jI nq), .ref (md 22), .ref (md 23), .ref (md 24), .ref (md 25), .ref (md 26), .int (jI tq), .ref (md 28), .ref (md 29), .ref (md 30)]))] := hD
  refine jv_if_eq (tgt := 20) hx hb ⟨by omega, by omega⟩ dX5_slotAt_6 (by decide) (fun c6 => ?_) (fun c6 => ?_)
  · skip
    have hl0 : ¬ (0 ≤ layer ∧ layer < ly) := hzl.elim (fun q9 => absurd q9.1 (by omega)) (fun q9 => q9.2)
    clear hzl
    refine jv_iconst hx hb dX5_slotAt_20 ?_
    refine lv_goto (tgt := 43) hx hb dX5_slotAt_21 (by decide) ?_
    exact JC 1 (by
      first
      | exact Or.inl ⟨rfl, fun q9 => hl0 q9.1⟩
      | exact Or.inl ⟨rfl, fun q9 => absurd q9.2 (by omega)⟩
      | exact Or.inr (Or.inl ⟨rfl, ⟨hl1, by omega⟩, fun q9 => by omega⟩)
      | exact Or.inr (Or.inr ⟨rfl, ⟨hl1, by omega⟩, by omega⟩)) _ _ _ (hP.sub [3, 0, 1, 2] rfl) (hD.sub [3, 0, 1, 2] (by decide) rfl) hS (lv_sub hl [0, 1, 2, 3, 4] rfl)
  · skip
    have hl1 : 0 ≤ layer ∧ layer < ly := hzl.elim (fun q9 => q9.2) (fun q9 => absurd q9.1 (by omega))
    clear hzl
    refine lv_iload hx hb dX5_slotAt_9 (lv_at hl 4 rfl) ?_
    refine jv_if_lt (tgt := 20) hx hb ⟨by omega, by omega⟩ dX5_slotAt_11 (by decide) (fun c11 => ?_) (fun c11 => ?_)
    · skip
      refine jv_iconst hx hb dX5_slotAt_20 ?_
      refine lv_goto (tgt := 43) hx hb dX5_slotAt_21 (by decide) ?_
      exact JC 1 (by
        first
        | exact Or.inl ⟨rfl, fun q9 => hl0 q9.1⟩
        | exact Or.inl ⟨rfl, fun q9 => absurd q9.2 (by omega)⟩
        | exact Or.inr (Or.inl ⟨rfl, ⟨hl1, by omega⟩, fun q9 => by omega⟩)
        | exact Or.inr (Or.inr ⟨rfl, ⟨hl1, by omega⟩, by omega⟩)) _ _ _ (hP.sub [3, 0, 1, 2] rfl) (hD.sub [3, 0, 1, 2] (by decide) rfl) hS (lv_sub hl [0, 1, 2, 3, 4] rfl)
    · skip
      refine lv_iload hx hb dX5_slotAt_14 (lv_at hl 4 rfl) ?_
      refine jv_iconst hx hb dX5_slotAt_16 ?_
      refine jv_icmp_le (tgt := 24) hx hb ⟨by omega, by omega⟩ ⟨by decide, by decide⟩ dX5_slotAt_17 (by decide) (fun c17 => ?_) (fun c17 => ?_)
      · skip
        refine lv_lload_n hx hb dX5_slotAt_24 rfl (lv_at hl 2 rfl) ?_
        refine jv_lconst1 hx hb dX5_slotAt_25 ?_
        refine jv_lcmp_lt (tgt := 38) hx hb ⟨by omega, by omega⟩ ⟨by decide, by decide⟩ dX5_slotAt_26 dX5_slotAt_27 (by decide) (fun c26 => ?_) (fun c26 => ?_)
        · skip
          refine jv_iconst hx hb dX5_slotAt_38 ?_
          refine lv_goto (tgt := 43) hx hb dX5_slotAt_39 (by decide) ?_
          exact JC 2 (by
            first
            | exact Or.inl ⟨rfl, fun q9 => hl0 q9.1⟩
            | exact Or.inl ⟨rfl, fun q9 => absurd q9.2 (by omega)⟩
            | exact Or.inr (Or.inl ⟨rfl, ⟨hl1, by omega⟩, fun q9 => by omega⟩)
            | exact Or.inr (Or.inr ⟨rfl, ⟨hl1, by omega⟩, by omega⟩)) _ _ _ (hP.sub [3, 0, 1, 2] rfl) (hD.sub [3, 0, 1, 2] (by decide) rfl) hS (lv_sub hl [0, 1, 2, 3, 4] rfl)
        · skip
          refine lv_lload_n hx hb dX5_slotAt_30 rfl (lv_at hl 2 rfl) ?_
          refine jv_ldc2 (n := 400) hx hb (by decide) hown k219 dX5_slotAt_31 ?_
          refine jv_lcmp_le (tgt := 42) hx hb ⟨by omega, by omega⟩ ⟨by decide, by decide⟩ dX5_slotAt_34 dX5_slotAt_35 (by decide) (fun c34 => ?_) (fun c34 => ?_)
          · skip
            refine jv_iconst hx hb dX5_slotAt_42 ?_
            exact JC 0 (by
              first
              | exact Or.inl ⟨rfl, fun q9 => hl0 q9.1⟩
              | exact Or.inl ⟨rfl, fun q9 => absurd q9.2 (by omega)⟩
              | exact Or.inr (Or.inl ⟨rfl, ⟨hl1, by omega⟩, fun q9 => by omega⟩)
              | exact Or.inr (Or.inr ⟨rfl, ⟨hl1, by omega⟩, by omega⟩)) _ _ _ (hP.sub [3, 0, 1, 2] rfl) (hD.sub [3, 0, 1, 2] (by decide) rfl) hS (lv_sub hl [0, 1, 2, 3, 4] rfl)
          · skip
            refine jv_iconst hx hb dX5_slotAt_38 ?_
            refine lv_goto (tgt := 43) hx hb dX5_slotAt_39 (by decide) ?_
            exact JC 2 (by
              first
              | exact Or.inl ⟨rfl, fun q9 => hl0 q9.1⟩
              | exact Or.inl ⟨rfl, fun q9 => absurd q9.2 (by omega)⟩
              | exact Or.inr (Or.inl ⟨rfl, ⟨hl1, by omega⟩, fun q9 => by omega⟩)
              | exact Or.inr (Or.inr ⟨rfl, ⟨hl1, by omega⟩, by omega⟩)) _ _ _ (hP.sub [3, 0, 1, 2] rfl) (hD.sub [3, 0, 1, 2] (by decide) rfl) hS (lv_sub hl [0, 1, 2, 3, 4] rfl)
      · skip
        refine jv_iconst hx hb dX5_slotAt_20 ?_
        refine lv_goto (tgt := 43) hx hb dX5_slotAt_21 (by decide) ?_
        exact JC 1 (by
          first
          | exact Or.inl ⟨rfl, fun q9 => hl0 q9.1⟩
          | exact Or.inl ⟨rfl, fun q9 => absurd q9.2 (by omega)⟩
          | exact Or.inr (Or.inl ⟨rfl, ⟨hl1, by omega⟩, fun q9 => by omega⟩)
          | exact Or.inr (Or.inr ⟨rfl, ⟨hl1, by omega⟩, by omega⟩)) _ _ _ (hP.sub [3, 0, 1, 2] rfl) (hD.sub [3, 0, 1, 2] (by decide) rfl) hS (lv_sub hl [0, 1, 2, 3, 4] rfl)
