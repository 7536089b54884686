set_option maxHeartbeats 4000000 in
set_option maxRecDepth 100000 in
/-- fits -/
theorem tX5_fits (l : Launch) (D : va_G) (g : ClassId × ClassId × ClassId) (hm : Nat) (md : Nat → Nat) (co : Int) (ly : Int) (nt : Int) (ns : Int) (nd : Int) (np : Int) (nq : Int) (tq : Int) (sn : Int → Int) (sl : Int → Int) (bo : Int → Int) (L : List jQ) (qn : Int → Int) (qs : Int → Int) (qx : Int → Int) (qy : Int → Int) (DD : List jD) (rl : Int → Int) (rx : Int → Int) (ry : Int → Int) (rs : Int → Int) (LP : List jQ) (rt : Int → Int) (na : Int) (layer : Int) (tl9 : Int) (px9 : Int) (py9 : Int) (sz9 : Int) (sp9 : Int) (aw9 : Int) (hms : msI sn sl bo ns L) (hns : ns ≤ 200) (hmd : mdI qn qs qx qy np DD) (hnp : np ≤ 60) (hmp : mpI rl rx ry rs nq LP) (hnq : nq ≤ 1500) (hlay : 0 ≤ layer ∧ layer < 64) (htl : rI tl9) (hpx : (0 ≤ px9 ∧ px9 ≤ 1000) ∧ (0 ≤ py9 ∧ py9 ≤ 1000) ∧ (0 ≤ sz9 ∧ sz9 ≤ 100) ∧ (0 ≤ sp9 ∧ sp9 ≤ 100) ∧ (0 ≤ aw9 ∧ aw9 ≤ 100)) (hna : 0 ≤ na ∧ na ≤ nq) (hrt : ∀ k : Int, 0 ≤ k → k < nq → rI (rt k) ∧ (k < na → rl k = layer → rt k ≠ tl9) ∧ (na ≤ k → rt k = tl9)) : jMi l D g yX5_fits wsX5_fits 2 60 [.ref hm, .int (jI layer), .int (jI tl9), .int (jI px9), .int (jI py9), .int (jI sz9), .int (jI sp9), .int (jI aw9)] [(hm, .inr (5, [.int (jI co), .int (jI ly), .int (jI nt), .ref (md 3), .int (jI ns), .ref (md 5), .ref (md 6), .ref (md 7), .int (jI nd), .ref (md 9), .ref (md 10), .ref (md 11), .int (jI np), .ref (md 13), .ref (md 14), .ref (md 15), .ref (md 16), .ref (md 17), .ref (md 18), .ref (md 19), .ref (md 20), .int (jI nq), .ref (md 22), .ref (md 23), .ref (md 24), .ref (md 25), .ref (md 26), .int (jI tq), .ref (md 28), .ref (md 29), .ref (md 30)])), ((md 5), .inl (g.1, 200, .inl (aI sn))), ((md 6), .inl (g.1, 200, .inl (aI sl))), ((md 7), .inl (g.1, 800, .inl (aI bo))), ((md 13), .inl (g.1, 60, .inl (aI qn))), ((md 14), .inl (g.1, 60, .inl (aI qs))), ((md 15), .inl (g.1, 60, .inl (aI qx))), ((md 16), .inl (g.1, 60, .inl (aI qy))), ((md 22), .inl (g.1, 1500, .inl (aI rl))), ((md 23), .inl (g.1, 1500, .inl (aI rx))), ((md 24), .inl (g.1, 1500, .inl (aI ry))), ((md 25), .inl (g.1, 1500, .inl (aI rs))), ((md 26), .inl (g.1, 1500, .inl (aI rt)))] (S := Unit) (fun z (_ : Unit) => (z = 1 ∧ (bad0 px9 py9 sz9 aw9 sp9 L (DD.map fun d => d.1) (pre LP na) layer) = false) ∨ (z = 0 ∧ (bad0 px9 py9 sz9 aw9 sp9 L (DD.map fun d => d.1) (pre LP na) layer) = true)) (fun _ => [(hm, .inr (5, [.int (jI co), .int (jI ly), .int (jI nt), .ref (md 3), .int (jI ns), .ref (md 5), .ref (md 6), .ref (md 7), .int (jI nd), .ref (md 9), .ref (md 10), .ref (md 11), .int (jI np), .ref (md 13), .ref (md 14), .ref (md 15), .ref (md 16), .ref (md 17), .ref (md 18), .ref (md 19), .ref (md 20), .int (jI nq), .ref (md 22), .ref (md 23), .ref (md 24), .ref (md 25), .ref (md 26), .int (jI tq), .ref (md 28), .ref (md 29), .ref (md 30)])), ((md 5), .inl (g.1, 200, .inl (aI sn))), ((md 6), .inl (g.1, 200, .inl (aI sl))), ((md 7), .inl (g.1, 800, .inl (aI bo))), ((md 13), .inl (g.1, 60, .inl (aI qn))), ((md 14), .inl (g.1, 60, .inl (aI qs))), ((md 15), .inl (g.1, 60, .inl (aI qx))), ((md 16), .inl (g.1, 60, .inl (aI qy))), ((md 22), .inl (g.1, 1500, .inl (aI rl))), ((md 23), .inl (g.1, 1500, .inl (aI rx))), ((md 24), .inl (g.1, 1500, .inl (aI ry))), ((md 25), .inl (g.1, 1500, .inl (aI rs))), ((md 26), .inl (g.1, 1500, .inl (aI rt)))]) := by
  refine jMz_of (cc := cX5_fits) (maxL := 11) (by decide) rfl (Nat.le_of_ble_eq_true rfl) ?_
  intro p e s m args below meth c Q A hx hb hml hts hown hK hA hret ls hl hP hD
  have hS : va_S A s.heap s.heap [] := va_S.rf
  have hown : s.vm.findClass RX5 = some m.cls := hown
  have f17 := hts (.fieldLink RX5 17 "AntennaFillModel" "shapeLayer" "[I") (by decide +kernel)
  have f20 := hts (.fieldLink RX5 20 "AntennaFillModel" "box" "[I") (by decide +kernel)
  have f38 := hts (.fieldLink RX5 38 "AntennaFillModel" "placedX" "[I") (by decide +kernel)
  have f41 := hts (.fieldLink RX5 41 "AntennaFillModel" "placedY" "[I") (by decide +kernel)
  have f56 := hts (.fieldLink RX5 56 "AntennaFillModel" "pieceLayer" "[I") (by decide +kernel)
  have f59 := hts (.fieldLink RX5 59 "AntennaFillModel" "pieceX" "[I") (by decide +kernel)
  have f62 := hts (.fieldLink RX5 62 "AntennaFillModel" "pieceY" "[I") (by decide +kernel)
  have f65 := hts (.fieldLink RX5 65 "AntennaFillModel" "pieceSize" "[I") (by decide +kernel)
  have f68 := hts (.fieldLink RX5 68 "AntennaFillModel" "pieceTile" "[I") (by decide +kernel)
  have f102 := hts (.fieldLink RX5 102 "AntennaFillModel" "shapes" "I") (by decide +kernel)
  have f139 := hts (.fieldLink RX5 139 "AntennaFillModel" "placed" "I") (by decide +kernel)
  have f165 := hts (.fieldLink RX5 165 "AntennaFillModel" "pieces" "I") (by decide +kernel)
  have inX5 : ∀ w ∈ wsX50, w ∈ wsX5_fits := by decide +kernel
  have hl : lv_has ls 11 [(0, .ref hm), (1, .int (jI layer)), (2, .int (jI tl9)), (3, .int (jI px9)), (4, .int (jI py9)), (5, .int (jI sz9)), (6, .int (jI sp9)), (7, .int (jI aw9))] := hl
  have hlen := hms.1
  have hlen2 := hmd.1
  have hlen3 := hmp.1
  have L215 : ∀ (fuel : Nat) (i : Int) (gd : Int), (0 ≤ i ∧ i ≤ nq) → ((gd = 1 ∧ (((L).filter (onL layer)).any (gt0 px9 py9 sz9 aw9) = false) ∧ ((((DD.map fun d => d.1)).filter (onL layer)).any (gt0 px9 py9 sz9 aw9) = false) ∧ ((pre (pre LP na) i).filter (onL layer)).any (gt0 px9 py9 sz9 sp9) = false) ∨ (gd = 0 ∧ (bad0 px9 py9 sz9 aw9 sp9 L (DD.map fun d => d.1) (pre LP na) layer) = true)) → (nq + 1 - i < (fuel : Int)) → ∀ (H : Heap) (locs : List Loc) (ls : Array Slot), va_P D jcl [(hm, .inr (5, [.int (jI co), .int (jI ly), .int (jI nt), .ref (md 3), .int (jI ns), .ref (md 5), .ref (md 6), .ref (md 7), .int (jI nd), .ref (md 9), .ref (md 10), .ref (md 11), .int (jI np), .ref (md 13), .ref (md 14), .ref (md 15), .ref (md 16), .ref (md 17), .ref (md 18), .ref (md 19), .ref (md 20), .int (jI nq), .ref (md 22), .ref (md 23), .ref (md 24), .ref (md 25), .ref (md 26), .int (jI tq), .ref (md 28), .ref (md 29), .ref (md 30)])), ((md 5), .inl (g.1, 200, .inl (aI sn))), ((md 6), .inl (g.1, 200, .inl (aI sl))), ((md 7), .inl (g.1, 800, .inl (aI bo))), ((md 13), .inl (g.1, 60, .inl (aI qn))), ((md 14), .inl (g.1, 60, .inl (aI qs))), ((md 15), .inl (g.1, 60, .inl (aI qx))), ((md 16), .inl (g.1, 60, .inl (aI qy))), ((md 22), .inl (g.1, 1500, .inl (aI rl))), ((md 23), .inl (g.1, 1500, .inl (aI rx))), ((md 24), .inl (g.1, 1500, .inl (aI ry))), ((md 25), .inl (g.1, 1500, .inl (aI rs))), ((md 26), .inl (g.1, 1500, .inl (aI rt)))] H → va_D A [(hm, .inr (5, [.int (jI co), .int (jI ly), .int (jI nt), .ref (md 3), .int (jI ns), .ref (md 5), .ref (md 6), .ref (md 7), .int (jI nd), .ref (md 9), .ref (md 10), .ref (md 11), .int (jI np), .ref (md 13), .ref (md 14), .ref (md 15), .ref (md 16), .ref (md 17), .ref (md 18), .ref (md 19), .ref (md 20), .int (jI nq), .ref (md 22), .ref (md 23), .ref (md 24), .ref (md 25), .ref (md 26), .int (jI tq), .ref (md 28), .ref (md 29), .ref (md 30)])), ((md 5), .inl (g.1, 200, .inl (aI sn))), ((md 6), .inl (g.1, 200, .inl (aI sl))), ((md 7), .inl (g.1, 800, .inl (aI bo))), ((md 13), .inl (g.1, 60, .inl (aI qn))), ((md 14), .inl (g.1, 60, .inl (aI qs))), ((md 15), .inl (g.1, 60, .inl (aI qx))), ((md 16), .inl (g.1, 60, .inl (aI qy))), ((md 22), .inl (g.1, 1500, .inl (aI rl))), ((md 23), .inl (g.1, 1500, .inl (aI rx))), ((md 24), .inl (g.1, 1500, .inl (aI ry))), ((md 25), .inl (g.1, 1500, .inl (aI rs))), ((md 26), .inl (g.1, 1500, .inl (aI rt)))] → va_S A s.heap H locs → lv_has ls 11 [(0, .ref hm), (1, .int (jI layer)), (2, .int (jI tl9)), (3, .int (jI px9)), (4, .int (jI py9)), (5, .int (jI sz9)), (6, .int (jI sp9)), (7, .int (jI aw9)), (8, .int (jI gd)), (9, .int (jI i))] → W p l e (jR 2 60) s m args below meth c H locs 0 0 Q (F0 m 215 ls []) := by
    intro fuel
    induction fuel with
    | zero =>
      intro i gd hi hg hfu
      exfalso; omega
    | succ fuel ihL215 =>
      intro i gd hi hg hfu H locs ls hP hD hS hl
      have hgd : gd = 0 ∨ gd = 1 := by rcases hg with q9 | q9 <;> omega
      refine lv_iload hx hb dX5_fits_215 (lv_at hl 9 rfl) ?_
      refine lv_aload_n hx hb dX5_fits_217 rfl (lv_at hl 0 rfl) ?_
      refine va_get (D := D) (ci := 5) (v := .int (jI nq)) (C := RX5) (T := TX5) (N := 31) hx hb hts inX5 hown hK hP 0 rfl rfl 21 (by decide) f165 (fun _ h9 => h9) rfl dX5_fits_218 ?_
      refine jv_icmp_ge (tgt := 350) hx hb ⟨by omega, by omega⟩ ⟨by omega, by omega⟩ dX5_fits_221 (by decide) (fun c221 => ?_) (fun c221 => ?_)
      · skip
        refine lv_iload hx hb dX5_fits_350 (lv_at hl 8 rfl) ?_
        exact hret gd () _ _ _ _ (by omega) (by
          rcases hg with q9 | q9
          · refine Or.inl ⟨q9.1, ?_⟩
            have hlp := pre_len LP hna.1
            have h9 := q9.2.2.2
            rw [pre_all (L := pre LP na) (i := i) (by omega)] at h9
            unfold bad0
            rw [q9.2.1, q9.2.2.1, h9]
            rfl
          · exact Or.inr q9) (hP.sub [0, 1, 2, 3, 4, 5, 6, 7, 8, 9, 10, 11, 12] rfl) (hD.sub [0, 1, 2, 3, 4, 5, 6, 7, 8, 9, 10, 11, 12] (by decide) rfl) hS dX5_fits_352
      · skip
        obtain ⟨q, hq, e1, e2, e3, e4, e5, hok⟩ := mp_at hmp (k := i) ⟨hi.1, by omega⟩
        unfold okQ at hok
        have hrti := hrt i hi.1 (by omega)
        refine lv_iload hx hb dX5_fits_224 (lv_at hl 8 rfl) ?_
        refine jv_if_eq (tgt := 350) hx hb ⟨by omega, by omega⟩ dX5_fits_226 (by decide) (fun c226 => ?_) (fun c226 => ?_)
        · skip
          refine lv_iload hx hb dX5_fits_350 (lv_at hl 8 rfl) ?_
          exact hret gd () _ _ _ _ (by omega) (by
            rcases hg with q9 | q9
            · refine Or.inl ⟨q9.1, ?_⟩
              have hlp := pre_len LP hna.1
              have h9 := q9.2.2.2
              rw [pre_all (L := pre LP na) (i := i) (by omega)] at h9
              unfold bad0
              rw [q9.2.1, q9.2.2.1, h9]
              rfl
            · exact Or.inr q9) (hP.sub [0, 1, 2, 3, 4, 5, 6, 7, 8, 9, 10, 11, 12] rfl) (hD.sub [0, 1, 2, 3, 4, 5, 6, 7, 8, 9, 10, 11, 12] (by decide) rfl) hS dX5_fits_352
        · skip
          refine lv_aload_n hx hb dX5_fits_229 rfl (lv_at hl 0 rfl) ?_
          refine va_get (D := D) (ci := 5) (v := .ref (md 22)) (C := RX5) (T := TX5) (N := 31) hx hb hts inX5 hown hK hP 0 rfl rfl 22 (by decide) f56 (fun _ h9 => h9) rfl dX5_fits_230 ?_
          refine lv_iload hx hb dX5_fits_233 (lv_at hl 9 rfl) ?_
          refine jv_iald hx hb hK hP 8 0 rfl rfl (i := i) ⟨by omega, by omega⟩ (Nat.le_of_ble_eq_true rfl) dX5_fits_235 ?_
          refine lv_iload_n hx hb dX5_fits_236 rfl (lv_at hl 1 rfl) ?_
          refine jv_icmp_ne (tgt := 255) hx hb ⟨by omega, by omega⟩ ⟨by omega, by omega⟩ dX5_fits_237 (by decide) (fun c237 => ?_) (fun c237 => ?_)
          · skip
            refine jv_iconst hx hb dX5_fits_255 ?_
            refine lv_istore (lv' := [(10, .int (jI 0)), (0, .ref hm), (1, .int (jI layer)), (2, .int (jI tl9)), (3, .int (jI px9)), (4, .int (jI py9)), (5, .int (jI sz9)), (6, .int (jI sp9)), (7, .int (jI aw9)), (8, .int (jI gd)), (9, .int (jI i))]) hx hb dX5_fits_256 hl (by decide) rfl (fun ls hl => ?_)
            refine lv_iload hx hb dX5_fits_258 (lv_at hl 0 rfl) ?_
            refine jv_if_eq (tgt := 337) hx hb ⟨by decide, by decide⟩ dX5_fits_260 (by decide) (fun c260 => ?_) (fun c260 => ?_)
            · skip
              refine jv_iconst hx hb dX5_fits_337 ?_
              refine lv_goto (tgt := 342) hx hb dX5_fits_338 (by decide) ?_
              refine lv_istore (lv' := [(8, .int (jI 1)), (10, .int (jI 0)), (0, .ref hm), (1, .int (jI layer)), (2, .int (jI tl9)), (3, .int (jI px9)), (4, .int (jI py9)), (5, .int (jI sz9)), (6, .int (jI sp9)), (7, .int (jI aw9)), (9, .int (jI i))]) hx hb dX5_fits_342 hl (by decide) rfl (fun ls hl => ?_)
              refine jv_iinc (lv2 := [(9, .int (jI (i + 1))), (8, .int (jI 1)), (10, .int (jI 0)), (0, .ref hm), (1, .int (jI layer)), (2, .int (jI tl9)), (3, .int (jI px9)), (4, .int (jI py9)), (5, .int (jI sz9)), (6, .int (jI sp9)), (7, .int (jI aw9))]) hx hb dX5_fits_344 hl (k := 10) rfl (by decide) rfl (fun ls hl => ?_)
              refine lv_goto (tgt := 215) hx hb dX5_fits_347 (by decide) ?_
              exact ihL215 (i + 1) 1 (by omega) (by
                rcases hg with q9 | q9
                · rcases Int.lt_or_le i na with hlt | hge
                  · have hqp : (pre LP na)[i.toNat]? = some q := by unfold pre; rw [List.getElem?_take_of_lt (by omega)]; exact hq
                    first
                    | exact Or.inl ⟨rfl, q9.2.1, q9.2.2.1, any_s hi.1 hqp q9.2.2.2 (fun r => absurd (decide_eq_true_iff.mp r) (by omega))⟩
                    | exact Or.inl ⟨rfl, q9.2.1, q9.2.2.1, any_s hi.1 hqp q9.2.2.2 (fun r => absurd (decide_eq_true_iff.mp r) (fun r2 => by have := hrti.2.1 hlt (by omega); omega))⟩
                    | exact Or.inl ⟨rfl, q9.2.1, q9.2.2.1, any_s hi.1 hqp q9.2.2.2 (fun _ => dec_f (by omega))⟩
                    | exact Or.inr ⟨rfl, by
                        unfold bad0
                        rw [any_at hqp (onL_t (by omega)) (show (gt0 px9 py9 sz9 sp9) q = true from dec_t (by omega))]
                        simp⟩
                  · have hsm : pre (pre LP na) (i + 1) = pre (pre LP na) i := by
                      have hlp := pre_len LP hna.1
                      rw [pre_all (L := pre LP na) (i := i + 1) (by omega), pre_all (L := pre LP na) (i := i) (by omega)]
                    have hrt3 := hrti.2.2 hge
                    first
                    | exact Or.inl ⟨rfl, q9.2.1, q9.2.2.1, by rw [hsm]; exact q9.2.2.2⟩
                    | (exfalso; omega)
                · omega) (by omega) _ _ _ (hP.sub [0, 1, 2, 3, 4, 5, 6, 7, 8, 9, 10, 11, 12] rfl) (hD.sub [0, 1, 2, 3, 4, 5, 6, 7, 8, 9, 10, 11, 12] (by decide) rfl) hS (lv_sub hl [3, 4, 5, 6, 7, 8, 9, 10, 1, 0] rfl)
            · skip
              refine lv_iload_n hx hb dX5_fits_263 rfl (lv_at hl 4 rfl) ?_
              refine lv_iload hx hb dX5_fits_264 (lv_at hl 7 rfl) ?_
              refine jv_isub hx hb dX5_fits_266 ?_
              refine lv_iload hx hb dX5_fits_267 (lv_at hl 5 rfl) ?_
              refine lv_iload hx hb dX5_fits_269 (lv_at hl 7 rfl) ?_
              refine jv_isub hx hb dX5_fits_271 ?_
              refine lv_iload_n hx hb dX5_fits_272 rfl (lv_at hl 4 rfl) ?_
              refine lv_iload hx hb dX5_fits_273 (lv_at hl 6 rfl) ?_
              refine jv_iadd hx hb dX5_fits_275 ?_
              refine lv_iload hx hb dX5_fits_276 (lv_at hl 7 rfl) ?_
              refine jv_iadd hx hb dX5_fits_278 ?_
              refine lv_iload hx hb dX5_fits_279 (lv_at hl 5 rfl) ?_
              refine lv_iload hx hb dX5_fits_281 (lv_at hl 6 rfl) ?_
              refine jv_iadd hx hb dX5_fits_283 ?_
              refine lv_iload hx hb dX5_fits_284 (lv_at hl 7 rfl) ?_
              refine jv_iadd hx hb dX5_fits_286 ?_
              refine lv_aload_n hx hb dX5_fits_287 rfl (lv_at hl 1 rfl) ?_
              refine va_get (D := D) (ci := 5) (v := .ref (md 23)) (C := RX5) (T := TX5) (N := 31) hx hb hts inX5 hown hK hP 0 rfl rfl 23 (by decide) f59 (fun _ h9 => h9) rfl dX5_fits_288 ?_
              refine lv_iload hx hb dX5_fits_291 (lv_at hl 10 rfl) ?_
              refine jv_iald hx hb hK hP 9 0 rfl rfl (i := i) ⟨by omega, by omega⟩ (Nat.le_of_ble_eq_true rfl) dX5_fits_293 ?_
              refine lv_aload_n hx hb dX5_fits_294 rfl (lv_at hl 1 rfl) ?_
              refine va_get (D := D) (ci := 5) (v := .ref (md 24)) (C := RX5) (T := TX5) (N := 31) hx hb hts inX5 hown hK hP 0 rfl rfl 24 (by decide) f62 (fun _ h9 => h9) rfl dX5_fits_295 ?_
              refine lv_iload hx hb dX5_fits_298 (lv_at hl 10 rfl) ?_
              refine jv_iald hx hb hK hP 10 0 rfl rfl (i := i) ⟨by omega, by omega⟩ (Nat.le_of_ble_eq_true rfl) dX5_fits_300 ?_
              refine lv_aload_n hx hb dX5_fits_301 rfl (lv_at hl 1 rfl) ?_
              refine va_get (D := D) (ci := 5) (v := .ref (md 23)) (C := RX5) (T := TX5) (N := 31) hx hb hts inX5 hown hK hP 0 rfl rfl 23 (by decide) f59 (fun _ h9 => h9) rfl dX5_fits_302 ?_
              refine lv_iload hx hb dX5_fits_305 (lv_at hl 10 rfl) ?_
              refine jv_iald hx hb hK hP 9 0 rfl rfl (i := i) ⟨by omega, by omega⟩ (Nat.le_of_ble_eq_true rfl) dX5_fits_307 ?_
              refine lv_aload_n hx hb dX5_fits_308 rfl (lv_at hl 1 rfl) ?_
              refine va_get (D := D) (ci := 5) (v := .ref (md 25)) (C := RX5) (T := TX5) (N := 31) hx hb hts inX5 hown hK hP 0 rfl rfl 25 (by decide) f65 (fun _ h9 => h9) rfl dX5_fits_309 ?_
              refine lv_iload hx hb dX5_fits_312 (lv_at hl 10 rfl) ?_
              refine jv_iald hx hb hK hP 11 0 rfl rfl (i := i) ⟨by omega, by omega⟩ (Nat.le_of_ble_eq_true rfl) dX5_fits_314 ?_
              refine jv_iadd hx hb dX5_fits_315 ?_
              refine lv_aload_n hx hb dX5_fits_316 rfl (lv_at hl 1 rfl) ?_
              refine va_get (D := D) (ci := 5) (v := .ref (md 24)) (C := RX5) (T := TX5) (N := 31) hx hb hts inX5 hown hK hP 0 rfl rfl 24 (by decide) f62 (fun _ h9 => h9) rfl dX5_fits_317 ?_
              refine lv_iload hx hb dX5_fits_320 (lv_at hl 10 rfl) ?_
              refine jv_iald hx hb hK hP 10 0 rfl rfl (i := i) ⟨by omega, by omega⟩ (Nat.le_of_ble_eq_true rfl) dX5_fits_322 ?_
              refine lv_aload_n hx hb dX5_fits_323 rfl (lv_at hl 1 rfl) ?_
              refine va_get (D := D) (ci := 5) (v := .ref (md 25)) (C := RX5) (T := TX5) (N := 31) hx hb hts inX5 hown hK hP 0 rfl rfl 25 (by decide) f65 (fun _ h9 => h9) rfl dX5_fits_324 ?_
              refine lv_iload hx hb dX5_fits_327 (lv_at hl 10 rfl) ?_
              refine jv_iald hx hb hK hP 11 0 rfl rfl (i := i) ⟨by omega, by omega⟩ (Nat.le_of_ble_eq_true rfl) dX5_fits_329 ?_
              refine jv_iadd hx hb dX5_fits_330 ?_
              refine jc_Si (As := [.int (jI (px9 - sp9)), .int (jI (py9 - sp9)), .int (jI ((px9 + sz9) + sp9)), .int (jI ((py9 + sz9) + sp9)), .int (jI (rx i)), .int (jI (ry i)), .int (jI ((rx i) + (rs i))), .int (jI ((ry i) + (rs i)))]) (rest := []) (wq := [(hm, .inr (5, [.int (jI co), .int (jI ly), .int (jI nt), .ref (md 3), .int (jI ns), .ref (md 5), .ref (md 6), .ref (md 7), .int (jI nd), .ref (md 9), .ref (md 10), .ref (md 11), .int (jI np), .ref (md 13), .ref (md 14), .ref (md 15), .ref (md 16), .ref (md 17), .ref (md 18), .ref (md 19), .ref (md 20), .int (jI nq), .ref (md 22), .ref (md 23), .ref (md 24), .ref (md 25), .ref (md 26), .int (jI tq), .ref (md 28), .ref (md 29), .ref (md 30)])), ((md 5), .inl (g.1, 200, .inl (aI sn))), ((md 6), .inl (g.1, 200, .inl (aI sl))), ((md 7), .inl (g.1, 800, .inl (aI bo))), ((md 13), .inl (g.1, 60, .inl (aI qn))), ((md 14), .inl (g.1, 60, .inl (aI qs))), ((md 15), .inl (g.1, 60, .inl (aI qx))), ((md 16), .inl (g.1, 60, .inl (aI qy))), ((md 22), .inl (g.1, 1500, .inl (aI rl))), ((md 23), .inl (g.1, 1500, .inl (aI rx))), ((md 24), .inl (g.1, 1500, .inl (aI ry))), ((md 25), .inl (g.1, 1500, .inl (aI rs))), ((md 26), .inl (g.1, 1500, .inl (aI rt)))]) ⟨hx, hb, hml, hown, hts⟩ (tX5_areOver l D g (px9 - sp9) (py9 - sp9) ((px9 + sz9) + sp9) ((py9 + sz9) + sp9) (rx i) (ry i) ((rx i) + (rs i)) ((ry i) + (rs i)) (⟨⟨by omega, by omega⟩, ⟨by omega, by omega⟩, ⟨by omega, by omega⟩, ⟨by omega, by omega⟩, ⟨by omega, by omega⟩, ⟨by omega, by omega⟩, ⟨by omega, by omega⟩, ⟨by omega, by omega⟩⟩)) (va_cwS 8 hts gX5_fits_X5_areOver rfl rfl rfl (by decide +kernel) ⟨Nat.le_of_ble_eq_true rfl, Nat.le_of_ble_eq_true rfl⟩) hK hP hD hS hA [] [0, 1, 2, 3, 4, 5, 6, 7, 8, 9, 10, 11, 12] rfl rfl (by decide) (by decide) (by decide) rfl rfl hl.1 (Nat.le_of_ble_eq_true rfl) dX5_fits_331 ⟨Nat.le_of_ble_eq_true rfl, Nat.le_of_ble_eq_true rfl⟩ (fun za9 u H locs hu hP hD hS => ?_)
              have hu : (za9 = 1 ∧ ((px9 - sp9) < ((rx i) + (rs i)) ∧ (rx i) < ((px9 + sz9) + sp9) ∧ (py9 - sp9) < ((ry i) + (rs i)) ∧ (ry i) < ((py9 + sz9) + sp9))) ∨ (za9 = 0 ∧ ¬ ((px9 - sp9) < ((rx i) + (rs i)) ∧ (rx i) < ((px9 + sz9) + sp9) ∧ (py9 - sp9) < ((ry i) + (rs i)) ∧ (ry i) < ((py9 + sz9) + sp9))) := hu
              have hza := hu
              have hP : va_P D jcl [(hm, .inr (5, [.int (jI co), .int (jI ly), .int (jI nt), .ref (md 3), .int (jI ns), .ref (md 5), .ref (md 6), .ref (md 7), .int (jI nd), .ref (md 9), .ref (md 10), .ref (md 11), .int (jI np), .ref (md 13), .ref (md 14), .ref (md 15), .ref (md 16), .ref (md 17), .ref (md 18), .ref (md 19), .ref (md 20), .int (jI nq), .ref (md 22), .ref (md 23), .ref (md 24), .ref (md 25), .ref (md 26), .int (jI tq), .ref (md 28), .ref (md 29), .ref (md 30)])), ((md 5), .inl (g.1, 200, .inl (aI sn))), ((md 6), .inl (g.1, 200, .inl (aI sl))), ((md 7), .inl (g.1, 800, .inl (aI bo))), ((md 13), .inl (g.1, 60, .inl (aI qn))), ((md 14), .inl (g.1, 60, .inl (aI qs))), ((md 15), .inl (g.1, 60, .inl (aI qx))), ((md 16), .inl (g.1, 60, .inl (aI qy))), ((md 22), .inl (g.1, 1500, .inl (aI rl))), ((md 23), .inl (g.1, 1500, .inl (aI rx))), ((md 24), .inl (g.1, 1500, .inl (aI ry))), ((md 25), .inl (g.1, 1500, .inl (aI rs))), ((md 26), .inl (g.1, 1500, .inl (aI rt)))] H := hP
              have hD : va_D A [(hm, .inr (5, [.int (jI co), .int (jI ly), .int (jI nt), .ref (md 3), .int (jI ns), .ref (md 5), .ref (md 6), .ref (md 7), .int (jI nd), .ref (md 9), .ref (md 10), .ref (md 11), .int (jI np), .ref (md 13), .ref (md 14), .ref (md 15), .ref (md 16), .ref (md 17), .ref (md 18), .ref (md 19), .ref (md 20), .int (jI nq), .ref (md 22), .ref (md 23), .ref (md 24), .ref (md 25), .ref (md 26), .int (jI tq), .ref (md 28), .ref (md 29), .ref (md 30)])), ((md 5), .inl (g.1, 200, .inl (aI sn))), ((md 6), .inl (g.1, 200, .inl (aI sl))), ((md 7), .inl (g.1, 800, .inl (aI bo))), ((md 13), .inl (g.1, 60, .inl (aI qn))), ((md 14), .inl (g.1, 60, .inl (aI qs))), ((md 15), .inl (g.1, 60, .inl (aI qx))), ((md 16), .inl (g.1, 60, .inl (aI qy))), ((md 22), .inl (g.1, 1500, .inl (aI rl))), ((md 23), .inl (g.1, 1500, .inl (aI rx))), ((md 24), .inl (g.1, 1500, .inl (aI ry))), ((md 25), .inl (g.1, 1500, .inl (aI rs))), ((md 26), .inl (g.1, 1500, .inl (aI rt)))] := hD
              refine jv_if_ne (tgt := 341) hx hb ⟨by omega, by omega⟩ dX5_fits_334 (by decide) (fun c334 => ?_) (fun c334 => ?_)
              · skip
                refine jv_iconst hx hb dX5_fits_341 ?_
                refine lv_istore (lv' := [(8, .int (jI 0)), (10, .int (jI 0)), (0, .ref hm), (1, .int (jI layer)), (2, .int (jI tl9)), (3, .int (jI px9)), (4, .int (jI py9)), (5, .int (jI sz9)), (6, .int (jI sp9)), (7, .int (jI aw9)), (9, .int (jI i))]) hx hb dX5_fits_342 hl (by decide) rfl (fun ls hl => ?_)
                refine jv_iinc (lv2 := [(9, .int (jI (i + 1))), (8, .int (jI 0)), (10, .int (jI 0)), (0, .ref hm), (1, .int (jI layer)), (2, .int (jI tl9)), (3, .int (jI px9)), (4, .int (jI py9)), (5, .int (jI sz9)), (6, .int (jI sp9)), (7, .int (jI aw9))]) hx hb dX5_fits_344 hl (k := 10) rfl (by decide) rfl (fun ls hl => ?_)
                refine lv_goto (tgt := 215) hx hb dX5_fits_347 (by decide) ?_
                exact ihL215 (i + 1) 0 (by omega) (by
                  rcases hg with q9 | q9
                  · rcases Int.lt_or_le i na with hlt | hge
                    · have hqp : (pre LP na)[i.toNat]? = some q := by unfold pre; rw [List.getElem?_take_of_lt (by omega)]; exact hq
                      first
                      | exact Or.inl ⟨rfl, q9.2.1, q9.2.2.1, any_s hi.1 hqp q9.2.2.2 (fun r => absurd (decide_eq_true_iff.mp r) (by omega))⟩
                      | exact Or.inl ⟨rfl, q9.2.1, q9.2.2.1, any_s hi.1 hqp q9.2.2.2 (fun r => absurd (decide_eq_true_iff.mp r) (fun r2 => by have := hrti.2.1 hlt (by omega); omega))⟩
                      | exact Or.inl ⟨rfl, q9.2.1, q9.2.2.1, any_s hi.1 hqp q9.2.2.2 (fun _ => dec_f (by omega))⟩
                      | exact Or.inr ⟨rfl, by
                          unfold bad0
                          rw [any_at hqp (onL_t (by omega)) (show (gt0 px9 py9 sz9 sp9) q = true from dec_t (by omega))]
                          simp⟩
                    · have hsm : pre (pre LP na) (i + 1) = pre (pre LP na) i := by
                        have hlp := pre_len LP hna.1
                        rw [pre_all (L := pre LP na) (i := i + 1) (by omega), pre_all (L := pre LP na) (i := i) (by omega)]
                      have hrt3 := hrti.2.2 hge
                      first
                      | exact Or.inl ⟨rfl, q9.2.1, q9.2.2.1, by rw [hsm]; exact q9.2.2.2⟩
                      | (exfalso; omega)
                  · omega) (by omega) _ _ _ (hP.sub [0, 1, 2, 3, 4, 5, 6, 7, 8, 9, 10, 11, 12] rfl) (hD.sub [0, 1, 2, 3, 4, 5, 6, 7, 8, 9, 10, 11, 12] (by decide) rfl) hS (lv_sub hl [3, 4, 5, 6, 7, 8, 9, 10, 1, 0] rfl)
              · skip
                refine jv_iconst hx hb dX5_fits_337 ?_
                refine lv_goto (tgt := 342) hx hb dX5_fits_338 (by decide) ?_
                refine lv_istore (lv' := [(8, .int (jI 1)), (10, .int (jI 0)), (0, .ref hm), (1, .int (jI layer)), (2, .int (jI tl9)), (3, .int (jI px9)), (4, .int (jI py9)), (5, .int (jI sz9)), (6, .int (jI sp9)), (7, .int (jI aw9)), (9, .int (jI i))]) hx hb dX5_fits_342 hl (by decide) rfl (fun ls hl => ?_)
                refine jv_iinc (lv2 := [(9, .int (jI (i + 1))), (8, .int (jI 1)), (10, .int (jI 0)), (0, .ref hm), (1, .int (jI layer)), (2, .int (jI tl9)), (3, .int (jI px9)), (4, .int (jI py9)), (5, .int (jI sz9)), (6, .int (jI sp9)), (7, .int (jI aw9))]) hx hb dX5_fits_344 hl (k := 10) rfl (by decide) rfl (fun ls hl => ?_)
                refine lv_goto (tgt := 215) hx hb dX5_fits_347 (by decide) ?_
                exact ihL215 (i + 1) 1 (by omega) (by
                  rcases hg with q9 | q9
                  · rcases Int.lt_or_le i na with hlt | hge
                    · have hqp : (pre LP na)[i.toNat]? = some q := by unfold pre; rw [List.getElem?_take_of_lt (by omega)]; exact hq
                      first
                      | exact Or.inl ⟨rfl, q9.2.1, q9.2.2.1, any_s hi.1 hqp q9.2.2.2 (fun r => absurd (decide_eq_true_iff.mp r) (by omega))⟩
                      | exact Or.inl ⟨rfl, q9.2.1, q9.2.2.1, any_s hi.1 hqp q9.2.2.2 (fun r => absurd (decide_eq_true_iff.mp r) (fun r2 => by have := hrti.2.1 hlt (by omega); omega))⟩
                      | exact Or.inl ⟨rfl, q9.2.1, q9.2.2.1, any_s hi.1 hqp q9.2.2.2 (fun _ => dec_f (by omega))⟩
                      | exact Or.inr ⟨rfl, by
                          unfold bad0
                          rw [any_at hqp (onL_t (by omega)) (show (gt0 px9 py9 sz9 sp9) q = true from dec_t (by omega))]
                          simp⟩
                    · have hsm : pre (pre LP na) (i + 1) = pre (pre LP na) i := by
                        have hlp := pre_len LP hna.1
                        rw [pre_all (L := pre LP na) (i := i + 1) (by omega), pre_all (L := pre LP na) (i := i) (by omega)]
                      have hrt3 := hrti.2.2 hge
                      first
                      | exact Or.inl ⟨rfl, q9.2.1, q9.2.2.1, by rw [hsm]; exact q9.2.2.2⟩
                      | (exfalso; omega)
                  · omega) (by omega) _ _ _ (hP.sub [0, 1, 2, 3, 4, 5, 6, 7, 8, 9, 10, 11, 12] rfl) (hD.sub [0, 1, 2, 3, 4, 5, 6, 7, 8, 9, 10, 11, 12] (by decide) rfl) hS (lv_sub hl [3, 4, 5, 6, 7, 8, 9, 10, 1, 0] rfl)
          · skip
            refine lv_aload_n hx hb dX5_fits_240 rfl (lv_at hl 0 rfl) ?_
            refine va_get (D := D) (ci := 5) (v := .ref (md 26)) (C := RX5) (T := TX5) (N := 31) hx hb hts inX5 hown hK hP 0 rfl rfl 26 (by decide) f68 (fun _ h9 => h9) rfl dX5_fits_241 ?_
            refine lv_iload hx hb dX5_fits_244 (lv_at hl 9 rfl) ?_
            refine jv_iald hx hb hK hP 12 0 rfl rfl (i := i) ⟨by omega, by omega⟩ (Nat.le_of_ble_eq_true rfl) dX5_fits_246 ?_
            refine lv_iload_n hx hb dX5_fits_247 rfl (lv_at hl 2 rfl) ?_
            refine jv_icmp_eq (tgt := 255) hx hb ⟨by omega, by omega⟩ ⟨by omega, by omega⟩ dX5_fits_248 (by decide) (fun c248 => ?_) (fun c248 => ?_)
            · skip
              refine jv_iconst hx hb dX5_fits_255 ?_
              refine lv_istore (lv' := [(10, .int (jI 0)), (0, .ref hm), (1, .int (jI layer)), (2, .int (jI tl9)), (3, .int (jI px9)), (4, .int (jI py9)), (5, .int (jI sz9)), (6, .int (jI sp9)), (7, .int (jI aw9)), (8, .int (jI gd)), (9, .int (jI i))]) hx hb dX5_fits_256 hl (by decide) rfl (fun ls hl => ?_)
              refine lv_iload hx hb dX5_fits_258 (lv_at hl 0 rfl) ?_
              refine jv_if_eq (tgt := 337) hx hb ⟨by decide, by decide⟩ dX5_fits_260 (by decide) (fun c260 => ?_) (fun c260 => ?_)
              · skip
                refine jv_iconst hx hb dX5_fits_337 ?_
                refine lv_goto (tgt := 342) hx hb dX5_fits_338 (by decide) ?_
                refine lv_istore (lv' := [(8, .int (jI 1)), (10, .int (jI 0)), (0, .ref hm), (1, .int (jI layer)), (2, .int (jI tl9)), (3, .int (jI px9)), (4, .int (jI py9)), (5, .int (jI sz9)), (6, .int (jI sp9)), (7, .int (jI aw9)), (9, .int (jI i))]) hx hb dX5_fits_342 hl (by decide) rfl (fun ls hl => ?_)
                refine jv_iinc (lv2 := [(9, .int (jI (i + 1))), (8, .int (jI 1)), (10, .int (jI 0)), (0, .ref hm), (1, .int (jI layer)), (2, .int (jI tl9)), (3, .int (jI px9)), (4, .int (jI py9)), (5, .int (jI sz9)), (6, .int (jI sp9)), (7, .int (jI aw9))]) hx hb dX5_fits_344 hl (k := 10) rfl (by decide) rfl (fun ls hl => ?_)
                refine lv_goto (tgt := 215) hx hb dX5_fits_347 (by decide) ?_
                exact ihL215 (i + 1) 1 (by omega) (by
                  rcases hg with q9 | q9
                  · rcases Int.lt_or_le i na with hlt | hge
                    · have hqp : (pre LP na)[i.toNat]? = some q := by unfold pre; rw [List.getElem?_take_of_lt (by omega)]; exact hq
                      first
                      | exact Or.inl ⟨rfl, q9.2.1, q9.2.2.1, any_s hi.1 hqp q9.2.2.2 (fun r => absurd (decide_eq_true_iff.mp r) (by omega))⟩
                      | exact Or.inl ⟨rfl, q9.2.1, q9.2.2.1, any_s hi.1 hqp q9.2.2.2 (fun r => absurd (decide_eq_true_iff.mp r) (fun r2 => by have := hrti.2.1 hlt (by omega); omega))⟩
                      | exact Or.inl ⟨rfl, q9.2.1, q9.2.2.1, any_s hi.1 hqp q9.2.2.2 (fun _ => dec_f (by omega))⟩
                      | exact Or.inr ⟨rfl, by
                          unfold bad0
                          rw [any_at hqp (onL_t (by omega)) (show (gt0 px9 py9 sz9 sp9) q = true from dec_t (by omega))]
                          simp⟩
                    · have hsm : pre (pre LP na) (i + 1) = pre (pre LP na) i := by
                        have hlp := pre_len LP hna.1
                        rw [pre_all (L := pre LP na) (i := i + 1) (by omega), pre_all (L := pre LP na) (i := i) (by omega)]
                      have hrt3 := hrti.2.2 hge
                      first
                      | exact Or.inl ⟨rfl, q9.2.1, q9.2.2.1, by rw [hsm]; exact q9.2.2.2⟩
                      | (exfalso; omega)
                  · omega) (by omega) _ _ _ (hP.sub [0, 1, 2, 3, 4, 5, 6, 7, 8, 9, 10, 11, 12] rfl) (hD.sub [0, 1, 2, 3, 4, 5, 6, 7, 8, 9, 10, 11, 12] (by decide) rfl) hS (lv_sub hl [3, 4, 5, 6, 7, 8, 9, 10, 1, 0] rfl)
              · skip
                refine lv_iload_n hx hb dX5_fits_263 rfl (lv_at hl 4 rfl) ?_
                refine lv_iload hx hb dX5_fits_264 (lv_at hl 7 rfl) ?_
                refine jv_isub hx hb dX5_fits_266 ?_
                refine lv_iload hx hb dX5_fits_267 (lv_at hl 5 rfl) ?_
                refine lv_iload hx hb dX5_fits_269 (lv_at hl 7 rfl) ?_
                refine jv_isub hx hb dX5_fits_271 ?_
                refine lv_iload_n hx hb dX5_fits_272 rfl (lv_at hl 4 rfl) ?_
                refine lv_iload hx hb dX5_fits_273 (lv_at hl 6 rfl) ?_
                refine jv_iadd hx hb dX5_fits_275 ?_
                refine lv_iload hx hb dX5_fits_276 (lv_at hl 7 rfl) ?_
                refine jv_iadd hx hb dX5_fits_278 ?_
                refine lv_iload hx hb dX5_fits_279 (lv_at hl 5 rfl) ?_
                refine lv_iload hx hb dX5_fits_281 (lv_at hl 6 rfl) ?_
                refine jv_iadd hx hb dX5_fits_283 ?_
                refine lv_iload hx hb dX5_fits_284 (lv_at hl 7 rfl) ?_
                refine jv_iadd hx hb dX5_fits_286 ?_
                refine lv_aload_n hx hb dX5_fits_287 rfl (lv_at hl 1 rfl) ?_
                refine va_get (D := D) (ci := 5) (v := .ref (md 23)) (C := RX5) (T := TX5) (N := 31) hx hb hts inX5 hown hK hP 0 rfl rfl 23 (by decide) f59 (fun _ h9 => h9) rfl dX5_fits_288 ?_
                refine lv_iload hx hb dX5_fits_291 (lv_at hl 10 rfl) ?_
                refine jv_iald hx hb hK hP 9 0 rfl rfl (i := i) ⟨by omega, by omega⟩ (Nat.le_of_ble_eq_true rfl) dX5_fits_293 ?_
                refine lv_aload_n hx hb dX5_fits_294 rfl (lv_at hl 1 rfl) ?_
                refine va_get (D := D) (ci := 5) (v := .ref (md 24)) (C := RX5) (T := TX5) (N := 31) hx hb hts inX5 hown hK hP 0 rfl rfl 24 (by decide) f62 (fun _ h9 => h9) rfl dX5_fits_295 ?_
                refine lv_iload hx hb dX5_fits_298 (lv_at hl 10 rfl) ?_
                refine jv_iald hx hb hK hP 10 0 rfl rfl (i := i) ⟨by omega, by omega⟩ (Nat.le_of_ble_eq_true rfl) dX5_fits_300 ?_
                refine lv_aload_n hx hb dX5_fits_301 rfl (lv_at hl 1 rfl) ?_
                refine va_get (D := D) (ci := 5) (v := .ref (md 23)) (C := RX5) (T := TX5) (N := 31) hx hb hts inX5 hown hK hP 0 rfl rfl 23 (by decide) f59 (fun _ h9 => h9) rfl dX5_fits_302 ?_
                refine lv_iload hx hb dX5_fits_305 (lv_at hl 10 rfl) ?_
                refine jv_iald hx hb hK hP 9 0 rfl rfl (i := i) ⟨by omega, by omega⟩ (Nat.le_of_ble_eq_true rfl) dX5_fits_307 ?_
                refine lv_aload_n hx hb dX5_fits_308 rfl (lv_at hl 1 rfl) ?_
                refine va_get (D := D) (ci := 5) (v := .ref (md 25)) (C := RX5) (T := TX5) (N := 31) hx hb hts inX5 hown hK hP 0 rfl rfl 25 (by decide) f65 (fun _ h9 => h9) rfl dX5_fits_309 ?_
                refine lv_iload hx hb dX5_fits_312 (lv_at hl 10 rfl) ?_
                refine jv_iald hx hb hK hP 11 0 rfl rfl (i := i) ⟨by omega, by omega⟩ (Nat.le_of_ble_eq_true rfl) dX5_fits_314 ?_
                refine jv_iadd hx hb dX5_fits_315 ?_
                refine lv_aload_n hx hb dX5_fits_316 rfl (lv_at hl 1 rfl) ?_
                refine va_get (D := D) (ci := 5) (v := .ref (md 24)) (C := RX5) (T := TX5) (N := 31) hx hb hts inX5 hown hK hP 0 rfl rfl 24 (by decide) f62 (fun _ h9 => h9) rfl dX5_fits_317 ?_
                refine lv_iload hx hb dX5_fits_320 (lv_at hl 10 rfl) ?_
                refine jv_iald hx hb hK hP 10 0 rfl rfl (i := i) ⟨by omega, by omega⟩ (Nat.le_of_ble_eq_true rfl) dX5_fits_322 ?_
                refine lv_aload_n hx hb dX5_fits_323 rfl (lv_at hl 1 rfl) ?_
                refine va_get (D := D) (ci := 5) (v := .ref (md 25)) (C := RX5) (T := TX5) (N := 31) hx hb hts inX5 hown hK hP 0 rfl rfl 25 (by decide) f65 (fun _ h9 => h9) rfl dX5_fits_324 ?_
                refine lv_iload hx hb dX5_fits_327 (lv_at hl 10 rfl) ?_
                refine jv_iald hx hb hK hP 11 0 rfl rfl (i := i) ⟨by omega, by omega⟩ (Nat.le_of_ble_eq_true rfl) dX5_fits_329 ?_
                refine jv_iadd hx hb dX5_fits_330 ?_
                refine jc_Si (As := [.int (jI (px9 - sp9)), .int (jI (py9 - sp9)), .int (jI ((px9 + sz9) + sp9)), .int (jI ((py9 + sz9) + sp9)), .int (jI (rx i)), .int (jI (ry i)), .int (jI ((rx i) + (rs i))), .int (jI ((ry i) + (rs i)))]) (rest := []) (wq := [(hm, .inr (5, [.int (jI co), .int (jI ly), .int (jI nt), .ref (md 3), .int (jI ns), .ref (md 5), .ref (md 6), .ref (md 7), .int (jI nd), .ref (md 9), .ref (md 10), .ref (md 11), .int (jI np), .ref (md 13), .ref (md 14), .ref (md 15), .ref (md 16), .ref (md 17), .ref (md 18), .ref (md 19), .ref (md 20), .int (jI nq), .ref (md 22), .ref (md 23), .ref (md 24), .ref (md 25), .ref (md 26), .int (jI tq), .ref (md 28), .ref (md 29), .ref (md 30)])), ((md 5), .inl (g.1, 200, .inl (aI sn))), ((md 6), .inl (g.1, 200, .inl (aI sl))), ((md 7), .inl (g.1, 800, .inl (aI bo))), ((md 13), .inl (g.1, 60, .inl (aI qn))), ((md 14), .inl (g.1, 60, .inl (aI qs))), ((md 15), .inl (g.1, 60, .inl (aI qx))), ((md 16), .inl (g.1, 60, .inl (aI qy))), ((md 22), .inl (g.1, 1500, .inl (aI rl))), ((md 23), .inl (g.1, 1500, .inl (aI rx))), ((md 24), .inl (g.1, 1500, .inl (aI ry))), ((md 25), .inl (g.1, 1500, .inl (aI rs))), ((md 26), .inl (g.1, 1500, .inl (aI rt)))]) ⟨hx, hb, hml, hown, hts⟩ (tX5_areOver l D g (px9 - sp9) (py9 - sp9) ((px9 + sz9) + sp9) ((py9 + sz9) + sp9) (rx i) (ry i) ((rx i) + (rs i)) ((ry i) + (rs i)) (⟨⟨by omega, by omega⟩, ⟨by omega, by omega⟩, ⟨by omega, by omega⟩, ⟨by omega, by omega⟩, ⟨by omega, by omega⟩, ⟨by omega, by omega⟩, ⟨by omega, by omega⟩, ⟨by omega, by omega⟩⟩)) (va_cwS 8 hts gX5_fits_X5_areOver rfl rfl rfl (by decide +kernel) ⟨Nat.le_of_ble_eq_true rfl, Nat.le_of_ble_eq_true rfl⟩) hK hP hD hS hA [] [0, 1, 2, 3, 4, 5, 6, 7, 8, 9, 10, 11, 12] rfl rfl (by decide) (by decide) (by decide) rfl rfl hl.1 (Nat.le_of_ble_eq_true rfl) dX5_fits_331 ⟨Nat.le_of_ble_eq_true rfl, Nat.le_of_ble_eq_true rfl⟩ (fun za9 u H locs hu hP hD hS => ?_)
                have hu : (za9 = 1 ∧ ((px9 - sp9) < ((rx i) + (rs i)) ∧ (rx i) < ((px9 + sz9) + sp9) ∧ (py9 - sp9) < ((ry i) + (rs i)) ∧ (ry i) < ((py9 + sz9) + sp9))) ∨ (za9 = 0 ∧ ¬ ((px9 - sp9) < ((rx i) + (rs i)) ∧ (rx i) < ((px9 + sz9) + sp9) ∧ (py9 - sp9) < ((ry i) + (rs i)) ∧ (ry i) < ((py9 + sz9) + sp9))) := hu
                have hza := hu
                have hP : va_P D jcl [(hm, .inr (5, [.int (jI co), .int (jI ly), .int (jI nt), .ref (md 3), .int (jI ns), .ref (md 5), .ref (md 6), .ref (md 7), .int (jI nd), .ref (md 9), .ref (md 10), .ref (md 11), .int (jI np), .ref (md 13), .ref (md 14), .ref (md 15), .ref (md 16), .ref (md 17), .ref (md 18), .ref (md 19), .ref (md 20), .int (jI nq), .ref (md 22), .ref (md 23), .ref (md 24), .ref (md 25), .ref (md 26), .int (jI tq), .ref (md 28), .ref (md 29), .ref (md 30)])), ((md 5), .inl (g.1, 200, .inl (aI sn))), ((md 6), .inl (g.1, 200, .inl (aI sl))), ((md 7), .inl (g.1, 800, .inl (aI bo))), ((md 13), .inl (g.1, 60, .inl (aI qn))), ((md 14), .inl (g.1, 60, .inl (aI qs))), ((md 15), .inl (g.1, 60, .inl (aI qx))), ((md 16), .inl (g.1, 60, .inl (aI qy))), ((md 22), .inl (g.1, 1500, .inl (aI rl))), ((md 23), .inl (g.1, 1500, .inl (aI rx))), ((md 24), .inl (g.1, 1500, .inl (aI ry))), ((md 25), .inl (g.1, 1500, .inl (aI rs))), ((md 26), .inl (g.1, 1500, .inl (aI rt)))] H := hP
                have hD : va_D A [(hm, .inr (5, [.int (jI co), .int (jI ly), .int (jI nt), .ref (md 3), .int (jI ns), .ref (md 5), .ref (md 6), .ref (md 7), .int (jI nd), .ref (md 9), .ref (md 10), .ref (md 11), .int (jI np), .ref (md 13), .ref (md 14), .ref (md 15), .ref (md 16), .ref (md 17), .ref (md 18), .ref (md 19), .ref (md 20), .int (jI nq), .ref (md 22), .ref (md 23), .ref (md 24), .ref (md 25), .ref (md 26), .int (jI tq), .ref (md 28), .ref (md 29), .ref (md 30)])), ((md 5), .inl (g.1, 200, .inl (aI sn))), ((md 6), .inl (g.1, 200, .inl (aI sl))), ((md 7), .inl (g.1, 800, .inl (aI bo))), ((md 13), .inl (g.1, 60, .inl (aI qn))), ((md 14), .inl (g.1, 60, .inl (aI qs))), ((md 15), .inl (g.1, 60, .inl (aI qx))), ((md 16), .inl (g.1, 60, .inl (aI qy))), ((md 22), .inl (g.1, 1500, .inl (aI rl))), ((md 23), .inl (g.1, 1500, .inl (aI rx))), ((md 24), .inl (g.1, 1500, .inl (aI ry))), ((md 25), .inl (g.1, 1500, .inl (aI rs))), ((md 26), .inl (g.1, 1500, .inl (aI rt)))] := hD
                refine jv_if_ne (tgt := 341) hx hb ⟨by omega, by omega⟩ dX5_fits_334 (by decide) (fun c334 => ?_) (fun c334 => ?_)
                · skip
                  refine jv_iconst hx hb dX5_fits_341 ?_
                  refine lv_istore (lv' := [(8, .int (jI 0)), (10, .int (jI 0)), (0, .ref hm), (1, .int (jI layer)), (2, .int (jI tl9)), (3, .int (jI px9)), (4, .int (jI py9)), (5, .int (jI sz9)), (6, .int (jI sp9)), (7, .int (jI aw9)), (9, .int (jI i))]) hx hb dX5_fits_342 hl (by decide) rfl (fun ls hl => ?_)
                  refine jv_iinc (lv2 := [(9, .int (jI (i + 1))), (8, .int (jI 0)), (10, .int (jI 0)), (0, .ref hm), (1, .int (jI layer)), (2, .int (jI tl9)), (3, .int (jI px9)), (4, .int (jI py9)), (5, .int (jI sz9)), (6, .int (jI sp9)), (7, .int (jI aw9))]) hx hb dX5_fits_344 hl (k := 10) rfl (by decide) rfl (fun ls hl => ?_)
                  refine lv_goto (tgt := 215) hx hb dX5_fits_347 (by decide) ?_
                  exact ihL215 (i + 1) 0 (by omega) (by
                    rcases hg with q9 | q9
                    · rcases Int.lt_or_le i na with hlt | hge
                      · have hqp : (pre LP na)[i.toNat]? = some q := by unfold pre; rw [List.getElem?_take_of_lt (by omega)]; exact hq
                        first
                        | exact Or.inl ⟨rfl, q9.2.1, q9.2.2.1, any_s hi.1 hqp q9.2.2.2 (fun r => absurd (decide_eq_true_iff.mp r) (by omega))⟩
                        | exact Or.inl ⟨rfl, q9.2.1, q9.2.2.1, any_s hi.1 hqp q9.2.2.2 (fun r => absurd (decide_eq_true_iff.mp r) (fun r2 => by have := hrti.2.1 hlt (by omega); omega))⟩
                        | exact Or.inl ⟨rfl, q9.2.1, q9.2.2.1, any_s hi.1 hqp q9.2.2.2 (fun _ => dec_f (by omega))⟩
                        | exact Or.inr ⟨rfl, by
                            unfold bad0
                            rw [any_at hqp (onL_t (by omega)) (show (gt0 px9 py9 sz9 sp9) q = true from dec_t (by omega))]
                            simp⟩
                      · have hsm : pre (pre LP na) (i + 1) = pre (pre LP na) i := by
                          have hlp := pre_len LP hna.1
                          rw [pre_all (L := pre LP na) (i := i + 1) (by omega), pre_all (L := pre LP na) (i := i) (by omega)]
                        have hrt3 := hrti.2.2 hge
                        first
                        | exact Or.inl ⟨rfl, q9.2.1, q9.2.2.1, by rw [hsm]; exact q9.2.2.2⟩
                        | (exfalso; omega)
                    · omega) (by omega) _ _ _ (hP.sub [0, 1, 2, 3, 4, 5, 6, 7, 8, 9, 10, 11, 12] rfl) (hD.sub [0, 1, 2, 3, 4, 5, 6, 7, 8, 9, 10, 11, 12] (by decide) rfl) hS (lv_sub hl [3, 4, 5, 6, 7, 8, 9, 10, 1, 0] rfl)
                · skip
                  refine jv_iconst hx hb dX5_fits_337 ?_
                  refine lv_goto (tgt := 342) hx hb dX5_fits_338 (by decide) ?_
                  refine lv_istore (lv' := [(8, .int (jI 1)), (10, .int (jI 0)), (0, .ref hm), (1, .int (jI layer)), (2, .int (jI tl9)), (3, .int (jI px9)), (4, .int (jI py9)), (5, .int (jI sz9)), (6, .int (jI sp9)), (7, .int (jI aw9)), (9, .int (jI i))]) hx hb dX5_fits_342 hl (by decide) rfl (fun ls hl => ?_)
                  refine jv_iinc (lv2 := [(9, .int (jI (i + 1))), (8, .int (jI 1)), (10, .int (jI 0)), (0, .ref hm), (1, .int (jI layer)), (2, .int (jI tl9)), (3, .int (jI px9)), (4, .int (jI py9)), (5, .int (jI sz9)), (6, .int (jI sp9)), (7, .int (jI aw9))]) hx hb dX5_fits_344 hl (k := 10) rfl (by decide) rfl (fun ls hl => ?_)
                  refine lv_goto (tgt := 215) hx hb dX5_fits_347 (by decide) ?_
                  exact ihL215 (i + 1) 1 (by omega) (by
                    rcases hg with q9 | q9
                    · rcases Int.lt_or_le i na with hlt | hge
                      · have hqp : (pre LP na)[i.toNat]? = some q := by unfold pre; rw [List.getElem?_take_of_lt (by omega)]; exact hq
                        first
                        | exact Or.inl ⟨rfl, q9.2.1, q9.2.2.1, any_s hi.1 hqp q9.2.2.2 (fun r => absurd (decide_eq_true_iff.mp r) (by omega))⟩
                        | exact Or.inl ⟨rfl, q9.2.1, q9.2.2.1, any_s hi.1 hqp q9.2.2.2 (fun r => absurd (decide_eq_true_iff.mp r) (fun r2 => by have := hrti.2.1 hlt (by omega); omega))⟩
                        | exact Or.inl ⟨rfl, q9.2.1, q9.2.2.1, any_s hi.1 hqp q9.2.2.2 (fun _ => dec_f (by omega))⟩
                        | exact Or.inr ⟨rfl, by
                            unfold bad0
                            rw [any_at hqp (onL_t (by omega)) (show (gt0 px9 py9 sz9 sp9) q = true from dec_t (by omega))]
                            simp⟩
                      · have hsm : pre (pre LP na) (i + 1) = pre (pre LP na) i := by
                          have hlp := pre_len LP hna.1
                          rw [pre_all (L := pre LP na) (i := i + 1) (by omega), pre_all (L := pre LP na) (i := i) (by omega)]
                        have hrt3 := hrti.2.2 hge
                        first
                        | exact Or.inl ⟨rfl, q9.2.1, q9.2.2.1, by rw [hsm]; exact q9.2.2.2⟩
                        | (exfalso; omega)
                    · omega) (by omega) _ _ _ (hP.sub [0, 1, 2, 3, 4, 5, 6, 7, 8, 9, 10, 11, 12] rfl) (hD.sub [0, 1, 2, 3, 4, 5, 6, 7, 8, 9, 10, 11, 12] (by decide) rfl) hS (lv_sub hl [3, 4, 5, 6, 7, 8, 9, 10, 1, 0] rfl)
            · skip
              refine jv_iconst hx hb dX5_fits_251 ?_
              refine lv_goto (tgt := 256) hx hb dX5_fits_252 (by decide) ?_
              refine lv_istore (lv' := [(10, .int (jI 1)), (0, .ref hm), (1, .int (jI layer)), (2, .int (jI tl9)), (3, .int (jI px9)), (4, .int (jI py9)), (5, .int (jI sz9)), (6, .int (jI sp9)), (7, .int (jI aw9)), (8, .int (jI gd)), (9, .int (jI i))]) hx hb dX5_fits_256 hl (by decide) rfl (fun ls hl => ?_)
              refine lv_iload hx hb dX5_fits_258 (lv_at hl 0 rfl) ?_
              refine jv_if_eq (tgt := 337) hx hb ⟨by decide, by decide⟩ dX5_fits_260 (by decide) (fun c260 => ?_) (fun c260 => ?_)
              · skip
                refine jv_iconst hx hb dX5_fits_337 ?_
                refine lv_goto (tgt := 342) hx hb dX5_fits_338 (by decide) ?_
                refine lv_istore (lv' := [(8, .int (jI 1)), (10, .int (jI 1)), (0, .ref hm), (1, .int (jI layer)), (2, .int (jI tl9)), (3, .int (jI px9)), (4, .int (jI py9)), (5, .int (jI sz9)), (6, .int (jI sp9)), (7, .int (jI aw9)), (9, .int (jI i))]) hx hb dX5_fits_342 hl (by decide) rfl (fun ls hl => ?_)
                refine jv_iinc (lv2 := [(9, .int (jI (i + 1))), (8, .int (jI 1)), (10, .int (jI 1)), (0, .ref hm), (1, .int (jI layer)), (2, .int (jI tl9)), (3, .int (jI px9)), (4, .int (jI py9)), (5, .int (jI sz9)), (6, .int (jI sp9)), (7, .int (jI aw9))]) hx hb dX5_fits_344 hl (k := 10) rfl (by decide) rfl (fun ls hl => ?_)
                refine lv_goto (tgt := 215) hx hb dX5_fits_347 (by decide) ?_
                exact ihL215 (i + 1) 1 (by omega) (by
                  rcases hg with q9 | q9
                  · rcases Int.lt_or_le i na with hlt | hge
                    · have hqp : (pre LP na)[i.toNat]? = some q := by unfold pre; rw [List.getElem?_take_of_lt (by omega)]; exact hq
                      first
                      | exact Or.inl ⟨rfl, q9.2.1, q9.2.2.1, any_s hi.1 hqp q9.2.2.2 (fun r => absurd (decide_eq_true_iff.mp r) (by omega))⟩
                      | exact Or.inl ⟨rfl, q9.2.1, q9.2.2.1, any_s hi.1 hqp q9.2.2.2 (fun r => absurd (decide_eq_true_iff.mp r) (fun r2 => by have := hrti.2.1 hlt (by omega); omega))⟩
                      | exact Or.inl ⟨rfl, q9.2.1, q9.2.2.1, any_s hi.1 hqp q9.2.2.2 (fun _ => dec_f (by omega))⟩
                      | exact Or.inr ⟨rfl, by
                          unfold bad0
                          rw [any_at hqp (onL_t (by omega)) (show (gt0 px9 py9 sz9 sp9) q = true from dec_t (by omega))]
                          simp⟩
                    · have hsm : pre (pre LP na) (i + 1) = pre (pre LP na) i := by
                        have hlp := pre_len LP hna.1
                        rw [pre_all (L := pre LP na) (i := i + 1) (by omega), pre_all (L := pre LP na) (i := i) (by omega)]
                      have hrt3 := hrti.2.2 hge
                      first
                      | exact Or.inl ⟨rfl, q9.2.1, q9.2.2.1, by rw [hsm]; exact q9.2.2.2⟩
                      | (exfalso; omega)
                  · omega) (by omega) _ _ _ (hP.sub [0, 1, 2, 3, 4, 5, 6, 7, 8, 9, 10, 11, 12] rfl) (hD.sub [0, 1, 2, 3, 4, 5, 6, 7, 8, 9, 10, 11, 12] (by decide) rfl) hS (lv_sub hl [3, 4, 5, 6, 7, 8, 9, 10, 1, 0] rfl)
              · skip
                refine lv_iload_n hx hb dX5_fits_263 rfl (lv_at hl 4 rfl) ?_
                refine lv_iload hx hb dX5_fits_264 (lv_at hl 7 rfl) ?_
                refine jv_isub hx hb dX5_fits_266 ?_
                refine lv_iload hx hb dX5_fits_267 (lv_at hl 5 rfl) ?_
                refine lv_iload hx hb dX5_fits_269 (lv_at hl 7 rfl) ?_
                refine jv_isub hx hb dX5_fits_271 ?_
                refine lv_iload_n hx hb dX5_fits_272 rfl (lv_at hl 4 rfl) ?_
                refine lv_iload hx hb dX5_fits_273 (lv_at hl 6 rfl) ?_
                refine jv_iadd hx hb dX5_fits_275 ?_
                refine lv_iload hx hb dX5_fits_276 (lv_at hl 7 rfl) ?_
                refine jv_iadd hx hb dX5_fits_278 ?_
                refine lv_iload hx hb dX5_fits_279 (lv_at hl 5 rfl) ?_
                refine lv_iload hx hb dX5_fits_281 (lv_at hl 6 rfl) ?_
                refine jv_iadd hx hb dX5_fits_283 ?_
                refine lv_iload hx hb dX5_fits_284 (lv_at hl 7 rfl) ?_
                refine jv_iadd hx hb dX5_fits_286 ?_
                refine lv_aload_n hx hb dX5_fits_287 rfl (lv_at hl 1 rfl) ?_
                refine va_get (D := D) (ci := 5) (v := .ref (md 23)) (C := RX5) (T := TX5) (N := 31) hx hb hts inX5 hown hK hP 0 rfl rfl 23 (by decide) f59 (fun _ h9 => h9) rfl dX5_fits_288 ?_
                refine lv_iload hx hb dX5_fits_291 (lv_at hl 10 rfl) ?_
                refine jv_iald hx hb hK hP 9 0 rfl rfl (i := i) ⟨by omega, by omega⟩ (Nat.le_of_ble_eq_true rfl) dX5_fits_293 ?_
                refine lv_aload_n hx hb dX5_fits_294 rfl (lv_at hl 1 rfl) ?_
                refine va_get (D := D) (ci := 5) (v := .ref (md 24)) (C := RX5) (T := TX5) (N := 31) hx hb hts inX5 hown hK hP 0 rfl rfl 24 (by decide) f62 (fun _ h9 => h9) rfl dX5_fits_295 ?_
                refine lv_iload hx hb dX5_fits_298 (lv_at hl 10 rfl) ?_
                refine jv_iald hx hb hK hP 10 0 rfl rfl (i := i) ⟨by omega, by omega⟩ (Nat.le_of_ble_eq_true rfl) dX5_fits_300 ?_
                refine lv_aload_n hx hb dX5_fits_301 rfl (lv_at hl 1 rfl) ?_
                refine va_get (D := D) (ci := 5) (v := .ref (md 23)) (C := RX5) (T := TX5) (N := 31) hx hb hts inX5 hown hK hP 0 rfl rfl 23 (by decide) f59 (fun _ h9 => h9) rfl dX5_fits_302 ?_
                refine lv_iload hx hb dX5_fits_305 (lv_at hl 10 rfl) ?_
                refine jv_iald hx hb hK hP 9 0 rfl rfl (i := i) ⟨by omega, by omega⟩ (Nat.le_of_ble_eq_true rfl) dX5_fits_307 ?_
                refine lv_aload_n hx hb dX5_fits_308 rfl (lv_at hl 1 rfl) ?_
                refine va_get (D := D) (ci := 5) (v := .ref (md 25)) (C := RX5) (T := TX5) (N := 31) hx hb hts inX5 hown hK hP 0 rfl rfl 25 (by decide) f65 (fun _ h9 => h9) rfl dX5_fits_309 ?_
                refine lv_iload hx hb dX5_fits_312 (lv_at hl 10 rfl) ?_
                refine jv_iald hx hb hK hP 11 0 rfl rfl (i := i) ⟨by omega, by omega⟩ (Nat.le_of_ble_eq_true rfl) dX5_fits_314 ?_
                refine jv_iadd hx hb dX5_fits_315 ?_
                refine lv_aload_n hx hb dX5_fits_316 rfl (lv_at hl 1 rfl) ?_
                refine va_get (D := D) (ci := 5) (v := .ref (md 24)) (C := RX5) (T := TX5) (N := 31) hx hb hts inX5 hown hK hP 0 rfl rfl 24 (by decide) f62 (fun _ h9 => h9) rfl dX5_fits_317 ?_
                refine lv_iload hx hb dX5_fits_320 (lv_at hl 10 rfl) ?_
                refine jv_iald hx hb hK hP 10 0 rfl rfl (i := i) ⟨by omega, by omega⟩ (Nat.le_of_ble_eq_true rfl) dX5_fits_322 ?_
                refine lv_aload_n hx hb dX5_fits_323 rfl (lv_at hl 1 rfl) ?_
                refine va_get (D := D) (ci := 5) (v := .ref (md 25)) (C := RX5) (T := TX5) (N := 31) hx hb hts inX5 hown hK hP 0 rfl rfl 25 (by decide) f65 (fun _ h9 => h9) rfl dX5_fits_324 ?_
                refine lv_iload hx hb dX5_fits_327 (lv_at hl 10 rfl) ?_
                refine jv_iald hx hb hK hP 11 0 rfl rfl (i := i) ⟨by omega, by omega⟩ (Nat.le_of_ble_eq_true rfl) dX5_fits_329 ?_
                refine jv_iadd hx hb dX5_fits_330 ?_
                refine jc_Si (As := [.int (jI (px9 - sp9)), .int (jI (py9 - sp9)), .int (jI ((px9 + sz9) + sp9)), .int (jI ((py9 + sz9) + sp9)), .int (jI (rx i)), .int (jI (ry i)), .int (jI ((rx i) + (rs i))), .int (jI ((ry i) + (rs i)))]) (rest := []) (wq := [(hm, .inr (5, [.int (jI co), .int (jI ly), .int (jI nt), .ref (md 3), .int (jI ns), .ref (md 5), .ref (md 6), .ref (md 7), .int (jI nd), .ref (md 9), .ref (md 10), .ref (md 11), .int (jI np), .ref (md 13), .ref (md 14), .ref (md 15), .ref (md 16), .ref (md 17), .ref (md 18), .ref (md 19), .ref (md 20), .int (jI nq), .ref (md 22), .ref (md 23), .ref (md 24), .ref (md 25), .ref (md 26), .int (jI tq), .ref (md 28), .ref (md 29), .ref (md 30)])), ((md 5), .inl (g.1, 200, .inl (aI sn))), ((md 6), .inl (g.1, 200, .inl (aI sl))), ((md 7), .inl (g.1, 800, .inl (aI bo))), ((md 13), .inl (g.1, 60, .inl (aI qn))), ((md 14), .inl (g.1, 60, .inl (aI qs))), ((md 15), .inl (g.1, 60, .inl (aI qx))), ((md 16), .inl (g.1, 60, .inl (aI qy))), ((md 22), .inl (g.1, 1500, .inl (aI rl))), ((md 23), .inl (g.1, 1500, .inl (aI rx))), ((md 24), .inl (g.1, 1500, .inl (aI ry))), ((md 25), .inl (g.1, 1500, .inl (aI rs))), ((md 26), .inl (g.1, 1500, .inl (aI rt)))]) ⟨hx, hb, hml, hown, hts⟩ (tX5_areOver l D g (px9 - sp9) (py9 - sp9) ((px9 + sz9) + sp9) ((py9 + sz9) + sp9) (rx i) (ry i) ((rx i) + (rs i)) ((ry i) + (rs i)) (⟨⟨by omega, by omega⟩, ⟨by omega, by omega⟩, ⟨by omega, by omega⟩, ⟨by omega, by omega⟩, ⟨by omega, by omega⟩, ⟨by omega, by omega⟩, ⟨by omega, by omega⟩, ⟨by omega, by omega⟩⟩)) (va_cwS 8 hts gX5_fits_X5_areOver rfl rfl rfl (by decide +kernel) ⟨Nat.le_of_ble_eq_true rfl, Nat.le_of_ble_eq_true rfl⟩) hK hP hD hS hA [] [0, 1, 2, 3, 4, 5, 6, 7, 8, 9, 10, 11, 12] rfl rfl (by decide) (by decide) (by decide) rfl rfl hl.1 (Nat.le_of_ble_eq_true rfl) dX5_fits_331 ⟨Nat.le_of_ble_eq_true rfl, Nat.le_of_ble_eq_true rfl⟩ (fun za9 u H locs hu hP hD hS => ?_)
                have hu : (za9 = 1 ∧ ((px9 - sp9) < ((rx i) + (rs i)) ∧ (rx i) < ((px9 + sz9) + sp9) ∧ (py9 - sp9) < ((ry i) + (rs i)) ∧ (ry i) < ((py9 + sz9) + sp9))) ∨ (za9 = 0 ∧ ¬ ((px9 - sp9) < ((rx i) + (rs i)) ∧ (rx i) < ((px9 + sz9) + sp9) ∧ (py9 - sp9) < ((ry i) + (rs i)) ∧ (ry i) < ((py9 + sz9) + sp9))) := hu
                have hza := hu
                have hP : va_P D jcl [(hm, .inr (5, [.int (jI co), .int (jI ly), .int (jI nt), .ref (md 3), .int (jI ns), .ref (md 5), .ref (md 6), .ref (md 7), .int (jI nd), .ref (md 9), .ref (md 10), .ref (md 11), .int (jI np), .ref (md 13), .ref (md 14), .ref (md 15), .ref (md 16), .ref (md 17), .ref (md 18), .ref (md 19), .ref (md 20), .int (jI nq), .ref (md 22), .ref (md 23), .ref (md 24), .ref (md 25), .ref (md 26), .int (jI tq), .ref (md 28), .ref (md 29), .ref (md 30)])), ((md 5), .inl (g.1, 200, .inl (aI sn))), ((md 6), .inl (g.1, 200, .inl (aI sl))), ((md 7), .inl (g.1, 800, .inl (aI bo))), ((md 13), .inl (g.1, 60, .inl (aI qn))), ((md 14), .inl (g.1, 60, .inl (aI qs))), ((md 15), .inl (g.1, 60, .inl (aI qx))), ((md 16), .inl (g.1, 60, .inl (aI qy))), ((md 22), .inl (g.1, 1500, .inl (aI rl))), ((md 23), .inl (g.1, 1500, .inl (aI rx))), ((md 24), .inl (g.1, 1500, .inl (aI ry))), ((md 25), .inl (g.1, 1500, .inl (aI rs))), ((md 26), .inl (g.1, 1500, .inl (aI rt)))] H := hP
                have hD : va_D A [(hm, .inr (5, [.int (jI co), .int (jI ly), .int (jI nt), .ref (md 3), .int (jI ns), .ref (md 5), .ref (md 6), .ref (md 7), .int (jI nd), .ref (md 9), .ref (md 10), .ref (md 11), .int (jI np), .ref (md 13), .ref (md 14), .ref (md 15), .ref (md 16), .ref (md 17), .ref (md 18), .ref (md 19), .ref (md 20), .int (jI nq), .ref (md 22), .ref (md 23), .ref (md 24), .ref (md 25), .ref (md 26), .int (jI tq), .ref (md 28), .ref (md 29), .ref (md 30)])), ((md 5), .inl (g.1, 200, .inl (aI sn))), ((md 6), .inl (g.1, 200, .inl (aI sl))), ((md 7), .inl (g.1, 800, .inl (aI bo))), ((md 13), .inl (g.1, 60, .inl (aI qn))), ((md 14), .inl (g.1, 60, .inl (aI qs))), ((md 15), .inl (g.1, 60, .inl (aI qx))), ((md 16), .inl (g.1, 60, .inl (aI qy))), ((md 22), .inl (g.1, 1500, .inl (aI rl))), ((md 23), .inl (g.1, 1500, .inl (aI rx))), ((md 24), .inl (g.1, 1500, .inl (aI ry))), ((md 25), .inl (g.1, 1500, .inl (aI rs))), ((md 26), .inl (g.1, 1500, .inl (aI rt)))] := hD
                refine jv_if_ne (tgt := 341) hx hb ⟨by omega, by omega⟩ dX5_fits_334 (by decide) (fun c334 => ?_) (fun c334 => ?_)
                · skip
                  refine jv_iconst hx hb dX5_fits_341 ?_
                  refine lv_istore (lv' := [(8, .int (jI 0)), (10, .int (jI 1)), (0, .ref hm), (1, .int (jI layer)), (2, .int (jI tl9)), (3, .int (jI px9)), (4, .int (jI py9)), (5, .int (jI sz9)), (6, .int (jI sp9)), (7, .int (jI aw9)), (9, .int (jI i))]) hx hb dX5_fits_342 hl (by decide) rfl (fun ls hl => ?_)
                  refine jv_iinc (lv2 := [(9, .int (jI (i + 1))), (8, .int (jI 0)), (10, .int (jI 1)), (0, .ref hm), (1, .int (jI layer)), (2, .int (jI tl9)), (3, .int (jI px9)), (4, .int (jI py9)), (5, .int (jI sz9)), (6, .int (jI sp9)), (7, .int (jI aw9))]) hx hb dX5_fits_344 hl (k := 10) rfl (by decide) rfl (fun ls hl => ?_)
                  refine lv_goto (tgt := 215) hx hb dX5_fits_347 (by decide) ?_
                  exact ihL215 (i + 1) 0 (by omega) (by
                    rcases hg with q9 | q9
                    · rcases Int.lt_or_le i na with hlt | hge
                      · have hqp : (pre LP na)[i.toNat]? = some q := by unfold pre; rw [List.getElem?_take_of_lt (by omega)]; exact hq
                        first
                        | exact Or.inl ⟨rfl, q9.2.1, q9.2.2.1, any_s hi.1 hqp q9.2.2.2 (fun r => absurd (decide_eq_true_iff.mp r) (by omega))⟩
                        | exact Or.inl ⟨rfl, q9.2.1, q9.2.2.1, any_s hi.1 hqp q9.2.2.2 (fun r => absurd (decide_eq_true_iff.mp r) (fun r2 => by have := hrti.2.1 hlt (by omega); omega))⟩
                        | exact Or.inl ⟨rfl, q9.2.1, q9.2.2.1, any_s hi.1 hqp q9.2.2.2 (fun _ => dec_f (by omega))⟩
                        | exact Or.inr ⟨rfl, by
                            unfold bad0
                            rw [any_at hqp (onL_t (by omega)) (show (gt0 px9 py9 sz9 sp9) q = true from dec_t (by omega))]
                            simp⟩
                      · have hsm : pre (pre LP na) (i + 1) = pre (pre LP na) i := by
                          have hlp := pre_len LP hna.1
                          rw [pre_all (L := pre LP na) (i := i + 1) (by omega), pre_all (L := pre LP na) (i := i) (by omega)]
                        have hrt3 := hrti.2.2 hge
                        first
                        | exact Or.inl ⟨rfl, q9.2.1, q9.2.2.1, by rw [hsm]; exact q9.2.2.2⟩
                        | (exfalso; omega)
                    · omega) (by omega) _ _ _ (hP.sub [0, 1, 2, 3, 4, 5, 6, 7, 8, 9, 10, 11, 12] rfl) (hD.sub [0, 1, 2, 3, 4, 5, 6, 7, 8, 9, 10, 11, 12] (by decide) rfl) hS (lv_sub hl [3, 4, 5, 6, 7, 8, 9, 10, 1, 0] rfl)
                · skip
                  refine jv_iconst hx hb dX5_fits_337 ?_
                  refine lv_goto (tgt := 342) hx hb dX5_fits_338 (by decide) ?_
                  refine lv_istore (lv' := [(8, .int (jI 1)), (10, .int (jI 1)), (0, .ref hm), (1, .int (jI layer)), (2, .int (jI tl9)), (3, .int (jI px9)), (4, .int (jI py9)), (5, .int (jI sz9)), (6, .int (jI sp9)), (7, .int (jI aw9)), (9, .int (jI i))]) hx hb dX5_fits_342 hl (by decide) rfl (fun ls hl => ?_)
                  refine jv_iinc (lv2 := [(9, .int (jI (i + 1))), (8, .int (jI 1)), (10, .int (jI 1)), (0, .ref hm), (1, .int (jI layer)), (2, .int (jI tl9)), (3, .int (jI px9)), (4, .int (jI py9)), (5, .int (jI sz9)), (6, .int (jI sp9)), (7, .int (jI aw9))]) hx hb dX5_fits_344 hl (k := 10) rfl (by decide) rfl (fun ls hl => ?_)
                  refine lv_goto (tgt := 215) hx hb dX5_fits_347 (by decide) ?_
                  exact ihL215 (i + 1) 1 (by omega) (by
                    rcases hg with q9 | q9
                    · rcases Int.lt_or_le i na with hlt | hge
                      · have hqp : (pre LP na)[i.toNat]? = some q := by unfold pre; rw [List.getElem?_take_of_lt (by omega)]; exact hq
                        first
                        | exact Or.inl ⟨rfl, q9.2.1, q9.2.2.1, any_s hi.1 hqp q9.2.2.2 (fun r => absurd (decide_eq_true_iff.mp r) (by omega))⟩
                        | exact Or.inl ⟨rfl, q9.2.1, q9.2.2.1, any_s hi.1 hqp q9.2.2.2 (fun r => absurd (decide_eq_true_iff.mp r) (fun r2 => by have := hrti.2.1 hlt (by omega); omega))⟩
                        | exact Or.inl ⟨rfl, q9.2.1, q9.2.2.1, any_s hi.1 hqp q9.2.2.2 (fun _ => dec_f (by omega))⟩
                        | exact Or.inr ⟨rfl, by
                            unfold bad0
                            rw [any_at hqp (onL_t (by omega)) (show (gt0 px9 py9 sz9 sp9) q = true from dec_t (by omega))]
                            simp⟩
                      · have hsm : pre (pre LP na) (i + 1) = pre (pre LP na) i := by
                          have hlp := pre_len LP hna.1
                          rw [pre_all (L := pre LP na) (i := i + 1) (by omega), pre_all (L := pre LP na) (i := i) (by omega)]
                        have hrt3 := hrti.2.2 hge
                        first
                        | exact Or.inl ⟨rfl, q9.2.1, q9.2.2.1, by rw [hsm]; exact q9.2.2.2⟩
                        | (exfalso; omega)
                    · omega) (by omega) _ _ _ (hP.sub [0, 1, 2, 3, 4, 5, 6, 7, 8, 9, 10, 11, 12] rfl) (hD.sub [0, 1, 2, 3, 4, 5, 6, 7, 8, 9, 10, 11, 12] (by decide) rfl) hS (lv_sub hl [3, 4, 5, 6, 7, 8, 9, 10, 1, 0] rfl)
  have L119 : ∀ (fuel : Nat) (i : Int) (gd : Int), (0 ≤ i ∧ i ≤ np) → ((gd = 1 ∧ (((L).filter (onL layer)).any (gt0 px9 py9 sz9 aw9) = false) ∧ (((pre (DD.map fun d => d.1) i).filter (onL layer)).any (gt0 px9 py9 sz9 aw9) = false)) ∨ (gd = 0 ∧ (bad0 px9 py9 sz9 aw9 sp9 L (DD.map fun d => d.1) (pre LP na) layer) = true)) → (np + 1 - i < (fuel : Int)) → ∀ (H : Heap) (locs : List Loc) (ls : Array Slot), va_P D jcl [(hm, .inr (5, [.int (jI co), .int (jI ly), .int (jI nt), .ref (md 3), .int (jI ns), .ref (md 5), .ref (md 6), .ref (md 7), .int (jI nd), .ref (md 9), .ref (md 10), .ref (md 11), .int (jI np), .ref (md 13), .ref (md 14), .ref (md 15), .ref (md 16), .ref (md 17), .ref (md 18), .ref (md 19), .ref (md 20), .int (jI nq), .ref (md 22), .ref (md 23), .ref (md 24), .ref (md 25), .ref (md 26), .int (jI tq), .ref (md 28), .ref (md 29), .ref (md 30)])), ((md 5), .inl (g.1, 200, .inl (aI sn))), ((md 6), .inl (g.1, 200, .inl (aI sl))), ((md 7), .inl (g.1, 800, .inl (aI bo))), ((md 13), .inl (g.1, 60, .inl (aI qn))), ((md 14), .inl (g.1, 60, .inl (aI qs))), ((md 15), .inl (g.1, 60, .inl (aI qx))), ((md 16), .inl (g.1, 60, .inl (aI qy))), ((md 22), .inl (g.1, 1500, .inl (aI rl))), ((md 23), .inl (g.1, 1500, .inl (aI rx))), ((md 24), .inl (g.1, 1500, .inl (aI ry))), ((md 25), .inl (g.1, 1500, .inl (aI rs))), ((md 26), .inl (g.1, 1500, .inl (aI rt)))] H → va_D A [(hm, .inr (5, [.int (jI co), .int (jI ly), .int (jI nt), .ref (md 3), .int (jI ns), .ref (md 5), .ref (md 6), .ref (md 7), .int (jI nd), .ref (md 9), .ref (md 10), .ref (md 11), .int (jI np), .ref (md 13), .ref (md 14), .ref (md 15), .ref (md 16), .ref (md 17), .ref (md 18), .ref (md 19), .ref (md 20), .int (jI nq), .ref (md 22), .ref (md 23), .ref (md 24), .ref (md 25), .ref (md 26), .int (jI tq), .ref (md 28), .ref (md 29), .ref (md 30)])), ((md 5), .inl (g.1, 200, .inl (aI sn))), ((md 6), .inl (g.1, 200, .inl (aI sl))), ((md 7), .inl (g.1, 800, .inl (aI bo))), ((md 13), .inl (g.1, 60, .inl (aI qn))), ((md 14), .inl (g.1, 60, .inl (aI qs))), ((md 15), .inl (g.1, 60, .inl (aI qx))), ((md 16), .inl (g.1, 60, .inl (aI qy))), ((md 22), .inl (g.1, 1500, .inl (aI rl))), ((md 23), .inl (g.1, 1500, .inl (aI rx))), ((md 24), .inl (g.1, 1500, .inl (aI ry))), ((md 25), .inl (g.1, 1500, .inl (aI rs))), ((md 26), .inl (g.1, 1500, .inl (aI rt)))] → va_S A s.heap H locs → lv_has ls 11 [(0, .ref hm), (1, .int (jI layer)), (2, .int (jI tl9)), (3, .int (jI px9)), (4, .int (jI py9)), (5, .int (jI sz9)), (6, .int (jI sp9)), (7, .int (jI aw9)), (8, .int (jI gd)), (9, .int (jI i))] → W p l e (jR 2 60) s m args below meth c H locs 0 0 Q (F0 m 119 ls []) := by
    intro fuel
    induction fuel with
    | zero =>
      intro i gd hi hg hfu
      exfalso; omega
    | succ fuel ihL119 =>
      intro i gd hi hg hfu H locs ls hP hD hS hl
      have hgd : gd = 0 ∨ gd = 1 := by rcases hg with q9 | q9 <;> omega
      refine lv_iload hx hb dX5_fits_119 (lv_at hl 9 rfl) ?_
      refine lv_aload_n hx hb dX5_fits_121 rfl (lv_at hl 0 rfl) ?_
      refine va_get (D := D) (ci := 5) (v := .int (jI np)) (C := RX5) (T := TX5) (N := 31) hx hb hts inX5 hown hK hP 0 rfl rfl 12 (by decide) f139 (fun _ h9 => h9) rfl dX5_fits_122 ?_
      refine jv_icmp_ge (tgt := 212) hx hb ⟨by omega, by omega⟩ ⟨by omega, by omega⟩ dX5_fits_125 (by decide) (fun c125 => ?_) (fun c125 => ?_)
      · skip
        have hg2 : (gd = 1 ∧ (((L).filter (onL layer)).any (gt0 px9 py9 sz9 aw9) = false) ∧ ((((DD.map fun d => d.1)).filter (onL layer)).any (gt0 px9 py9 sz9 aw9) = false)) ∨ (gd = 0 ∧ (bad0 px9 py9 sz9 aw9 sp9 L (DD.map fun d => d.1) (pre LP na) layer) = true) := by
          rcases hg with q9 | q9
          · exact Or.inl ⟨q9.1, q9.2.1, by rw [← pre_all (L := (DD.map fun d => d.1)) (i := i) (by rw [List.length_map]; omega)]; exact q9.2.2⟩
          · exact Or.inr q9
        refine jv_iconst hx hb dX5_fits_212 ?_
        refine lv_istore (lv' := [(9, .int (jI 0)), (0, .ref hm), (1, .int (jI layer)), (2, .int (jI tl9)), (3, .int (jI px9)), (4, .int (jI py9)), (5, .int (jI sz9)), (6, .int (jI sp9)), (7, .int (jI aw9)), (8, .int (jI gd))]) hx hb dX5_fits_213 hl (by decide) rfl (fun ls hl => ?_)
        exact L215 ((nq + 1 - 0).toNat + 1) 0 gd (by omega) (by
          rcases hg2 with q9 | q9
          · exact Or.inl ⟨q9.1, q9.2.1, q9.2.2, by rw [pre_0]; rfl⟩
          · exact Or.inr q9) (by omega) _ _ _ (hP.sub [0, 1, 2, 3, 4, 5, 6, 7, 8, 9, 10, 11, 12] rfl) (hD.sub [0, 1, 2, 3, 4, 5, 6, 7, 8, 9, 10, 11, 12] (by decide) rfl) hS (lv_sub hl [1, 2, 3, 4, 5, 6, 7, 8, 9, 0] rfl)
      · skip
        obtain ⟨q, hq, e0, e1, e2, e3, e4, e5, e6, hok⟩ := md_at hmd (k := i) ⟨hi.1, by omega⟩
        unfold okQ at hok
        refine lv_iload hx hb dX5_fits_128 (lv_at hl 8 rfl) ?_
        refine jv_if_eq (tgt := 212) hx hb ⟨by omega, by omega⟩ dX5_fits_130 (by decide) (fun c130 => ?_) (fun c130 => ?_)
        · skip
          have hg2 : (gd = 1 ∧ (((L).filter (onL layer)).any (gt0 px9 py9 sz9 aw9) = false) ∧ ((((DD.map fun d => d.1)).filter (onL layer)).any (gt0 px9 py9 sz9 aw9) = false)) ∨ (gd = 0 ∧ (bad0 px9 py9 sz9 aw9 sp9 L (DD.map fun d => d.1) (pre LP na) layer) = true) := by
            rcases hg with q9 | q9
            · omega
            · exact Or.inr q9
          refine jv_iconst hx hb dX5_fits_212 ?_
          refine lv_istore (lv' := [(9, .int (jI 0)), (0, .ref hm), (1, .int (jI layer)), (2, .int (jI tl9)), (3, .int (jI px9)), (4, .int (jI py9)), (5, .int (jI sz9)), (6, .int (jI sp9)), (7, .int (jI aw9)), (8, .int (jI gd))]) hx hb dX5_fits_213 hl (by decide) rfl (fun ls hl => ?_)
          exact L215 ((nq + 1 - 0).toNat + 1) 0 gd (by omega) (by
            rcases hg2 with q9 | q9
            · exact Or.inl ⟨q9.1, q9.2.1, q9.2.2, by rw [pre_0]; rfl⟩
            · exact Or.inr q9) (by omega) _ _ _ (hP.sub [0, 1, 2, 3, 4, 5, 6, 7, 8, 9, 10, 11, 12] rfl) (hD.sub [0, 1, 2, 3, 4, 5, 6, 7, 8, 9, 10, 11, 12] (by decide) rfl) hS (lv_sub hl [1, 2, 3, 4, 5, 6, 7, 8, 9, 0] rfl)
        · skip
          refine lv_iload_n hx hb dX5_fits_133 rfl (lv_at hl 1 rfl) ?_
          refine jv_if_ne (tgt := 212) hx hb ⟨by omega, by omega⟩ dX5_fits_134 (by decide) (fun c134 => ?_) (fun c134 => ?_)
          · skip
            have hg2 : (gd = 1 ∧ (((L).filter (onL layer)).any (gt0 px9 py9 sz9 aw9) = false) ∧ ((((DD.map fun d => d.1)).filter (onL layer)).any (gt0 px9 py9 sz9 aw9) = false)) ∨ (gd = 0 ∧ (bad0 px9 py9 sz9 aw9 sp9 L (DD.map fun d => d.1) (pre LP na) layer) = true) := by
              rcases hg with q9 | q9
              · exact Or.inl ⟨q9.1, q9.2.1, by
                  rw [List.filter_eq_nil_iff.mpr (fun p hp => by
                    obtain ⟨d, hd, rfl⟩ := List.mem_map.mp hp
                    obtain ⟨k, hk⟩ := List.mem_iff_getElem?.mp hd
                    have := hmd.2 k d hk
                    exact fun r => by
                      have r := decide_eq_true_iff.mp r
                      omega)]
                  rfl⟩
              · exact Or.inr q9
            refine jv_iconst hx hb dX5_fits_212 ?_
            refine lv_istore (lv' := [(9, .int (jI 0)), (0, .ref hm), (1, .int (jI layer)), (2, .int (jI tl9)), (3, .int (jI px9)), (4, .int (jI py9)), (5, .int (jI sz9)), (6, .int (jI sp9)), (7, .int (jI aw9)), (8, .int (jI gd))]) hx hb dX5_fits_213 hl (by decide) rfl (fun ls hl => ?_)
            exact L215 ((nq + 1 - 0).toNat + 1) 0 gd (by omega) (by
              rcases hg2 with q9 | q9
              · exact Or.inl ⟨q9.1, q9.2.1, q9.2.2, by rw [pre_0]; rfl⟩
              · exact Or.inr q9) (by omega) _ _ _ (hP.sub [0, 1, 2, 3, 4, 5, 6, 7, 8, 9, 10, 11, 12] rfl) (hD.sub [0, 1, 2, 3, 4, 5, 6, 7, 8, 9, 10, 11, 12] (by decide) rfl) hS (lv_sub hl [1, 2, 3, 4, 5, 6, 7, 8, 9, 0] rfl)
          · skip
            refine lv_iload_n hx hb dX5_fits_137 rfl (lv_at hl 3 rfl) ?_
            refine lv_iload hx hb dX5_fits_138 (lv_at hl 7 rfl) ?_
            refine jv_isub hx hb dX5_fits_140 ?_
            refine lv_iload hx hb dX5_fits_141 (lv_at hl 4 rfl) ?_
            refine lv_iload hx hb dX5_fits_143 (lv_at hl 7 rfl) ?_
            refine jv_isub hx hb dX5_fits_145 ?_
            refine lv_iload_n hx hb dX5_fits_146 rfl (lv_at hl 3 rfl) ?_
            refine lv_iload hx hb dX5_fits_147 (lv_at hl 5 rfl) ?_
            refine jv_iadd hx hb dX5_fits_149 ?_
            refine lv_iload hx hb dX5_fits_150 (lv_at hl 7 rfl) ?_
            refine jv_iadd hx hb dX5_fits_152 ?_
            refine lv_iload hx hb dX5_fits_153 (lv_at hl 4 rfl) ?_
            refine lv_iload hx hb dX5_fits_155 (lv_at hl 5 rfl) ?_
            refine jv_iadd hx hb dX5_fits_157 ?_
            refine lv_iload hx hb dX5_fits_158 (lv_at hl 7 rfl) ?_
            refine jv_iadd hx hb dX5_fits_160 ?_
            refine lv_aload_n hx hb dX5_fits_161 rfl (lv_at hl 0 rfl) ?_
            refine va_get (D := D) (ci := 5) (v := .ref (md 15)) (C := RX5) (T := TX5) (N := 31) hx hb hts inX5 hown hK hP 0 rfl rfl 15 (by decide) f38 (fun _ h9 => h9) rfl dX5_fits_162 ?_
            refine lv_iload hx hb dX5_fits_165 (lv_at hl 9 rfl) ?_
            refine jv_iald hx hb hK hP 6 0 rfl rfl (i := i) ⟨by omega, by omega⟩ (Nat.le_of_ble_eq_true rfl) dX5_fits_167 ?_
            refine lv_aload_n hx hb dX5_fits_168 rfl (lv_at hl 0 rfl) ?_
            refine va_get (D := D) (ci := 5) (v := .ref (md 16)) (C := RX5) (T := TX5) (N := 31) hx hb hts inX5 hown hK hP 0 rfl rfl 16 (by decide) f41 (fun _ h9 => h9) rfl dX5_fits_169 ?_
            refine lv_iload hx hb dX5_fits_172 (lv_at hl 9 rfl) ?_
            refine jv_iald hx hb hK hP 7 0 rfl rfl (i := i) ⟨by omega, by omega⟩ (Nat.le_of_ble_eq_true rfl) dX5_fits_174 ?_
            refine lv_aload_n hx hb dX5_fits_175 rfl (lv_at hl 0 rfl) ?_
            refine va_get (D := D) (ci := 5) (v := .ref (md 15)) (C := RX5) (T := TX5) (N := 31) hx hb hts inX5 hown hK hP 0 rfl rfl 15 (by decide) f38 (fun _ h9 => h9) rfl dX5_fits_176 ?_
            refine lv_iload hx hb dX5_fits_179 (lv_at hl 9 rfl) ?_
            refine jv_iald hx hb hK hP 6 0 rfl rfl (i := i) ⟨by omega, by omega⟩ (Nat.le_of_ble_eq_true rfl) dX5_fits_181 ?_
            refine jv_iconst hx hb dX5_fits_182 ?_
            refine jv_iadd hx hb dX5_fits_183 ?_
            refine lv_aload_n hx hb dX5_fits_184 rfl (lv_at hl 0 rfl) ?_
            refine va_get (D := D) (ci := 5) (v := .ref (md 16)) (C := RX5) (T := TX5) (N := 31) hx hb hts inX5 hown hK hP 0 rfl rfl 16 (by decide) f41 (fun _ h9 => h9) rfl dX5_fits_185 ?_
            refine lv_iload hx hb dX5_fits_188 (lv_at hl 9 rfl) ?_
            refine jv_iald hx hb hK hP 7 0 rfl rfl (i := i) ⟨by omega, by omega⟩ (Nat.le_of_ble_eq_true rfl) dX5_fits_190 ?_
            refine jv_iconst hx hb dX5_fits_191 ?_
            refine jv_iadd hx hb dX5_fits_192 ?_
            refine jc_Si (As := [.int (jI (px9 - aw9)), .int (jI (py9 - aw9)), .int (jI ((px9 + sz9) + aw9)), .int (jI ((py9 + sz9) + aw9)), .int (jI (qx i)), .int (jI (qy i)), .int (jI ((qx i) + 4)), .int (jI ((qy i) + 4))]) (rest := []) (wq := [(hm, .inr (5, [.int (jI co), .int (jI ly), .int (jI nt), .ref (md 3), .int (jI ns), .ref (md 5), .ref (md 6), .ref (md 7), .int (jI nd), .ref (md 9), .ref (md 10), .ref (md 11), .int (jI np), .ref (md 13), .ref (md 14), .ref (md 15), .ref (md 16), .ref (md 17), .ref (md 18), .ref (md 19), .ref (md 20), .int (jI nq), .ref (md 22), .ref (md 23), .ref (md 24), .ref (md 25), .ref (md 26), .int (jI tq), .ref (md 28), .ref (md 29), .ref (md 30)])), ((md 5), .inl (g.1, 200, .inl (aI sn))), ((md 6), .inl (g.1, 200, .inl (aI sl))), ((md 7), .inl (g.1, 800, .inl (aI bo))), ((md 13), .inl (g.1, 60, .inl (aI qn))), ((md 14), .inl (g.1, 60, .inl (aI qs))), ((md 15), .inl (g.1, 60, .inl (aI qx))), ((md 16), .inl (g.1, 60, .inl (aI qy))), ((md 22), .inl (g.1, 1500, .inl (aI rl))), ((md 23), .inl (g.1, 1500, .inl (aI rx))), ((md 24), .inl (g.1, 1500, .inl (aI ry))), ((md 25), .inl (g.1, 1500, .inl (aI rs))), ((md 26), .inl (g.1, 1500, .inl (aI rt)))]) ⟨hx, hb, hml, hown, hts⟩ (tX5_areOver l D g (px9 - aw9) (py9 - aw9) ((px9 + sz9) + aw9) ((py9 + sz9) + aw9) (qx i) (qy i) ((qx i) + 4) ((qy i) + 4) (⟨⟨by omega, by omega⟩, ⟨by omega, by omega⟩, ⟨by omega, by omega⟩, ⟨by omega, by omega⟩, ⟨by omega, by omega⟩, ⟨by omega, by omega⟩, ⟨by omega, by omega⟩, ⟨by omega, by omega⟩⟩)) (va_cwS 8 hts gX5_fits_X5_areOver rfl rfl rfl (by decide +kernel) ⟨Nat.le_of_ble_eq_true rfl, Nat.le_of_ble_eq_true rfl⟩) hK hP hD hS hA [] [0, 1, 2, 3, 4, 5, 6, 7, 8, 9, 10, 11, 12] rfl rfl (by decide) (by decide) (by decide) rfl rfl hl.1 (Nat.le_of_ble_eq_true rfl) dX5_fits_193 ⟨Nat.le_of_ble_eq_true rfl, Nat.le_of_ble_eq_true rfl⟩ (fun za9 u H locs hu hP hD hS => ?_)
            have hu : (za9 = 1 ∧ ((px9 - aw9) < ((qx i) + 4) ∧ (qx i) < ((px9 + sz9) + aw9) ∧ (py9 - aw9) < ((qy i) + 4) ∧ (qy i) < ((py9 + sz9) + aw9))) ∨ (za9 = 0 ∧ ¬ ((px9 - aw9) < ((qx i) + 4) ∧ (qx i) < ((px9 + sz9) + aw9) ∧ (py9 - aw9) < ((qy i) + 4) ∧ (qy i) < ((py9 + sz9) + aw9))) := hu
            have hza := hu
            have hP : va_P D jcl [(hm, .inr (5, [.int (jI co), .int (jI ly), .int (jI nt), .ref (md 3), .int (jI ns), .ref (md 5), .ref (md 6), .ref (md 7), .int (jI nd), .ref (md 9), .ref (md 10), .ref (md 11), .int (jI np), .ref (md 13), .ref (md 14), .ref (md 15), .ref (md 16), .ref (md 17), .ref (md 18), .ref (md 19), .ref (md 20), .int (jI nq), .ref (md 22), .ref (md 23), .ref (md 24), .ref (md 25), .ref (md 26), .int (jI tq), .ref (md 28), .ref (md 29), .ref (md 30)])), ((md 5), .inl (g.1, 200, .inl (aI sn))), ((md 6), .inl (g.1, 200, .inl (aI sl))), ((md 7), .inl (g.1, 800, .inl (aI bo))), ((md 13), .inl (g.1, 60, .inl (aI qn))), ((md 14), .inl (g.1, 60, .inl (aI qs))), ((md 15), .inl (g.1, 60, .inl (aI qx))), ((md 16), .inl (g.1, 60, .inl (aI qy))), ((md 22), .inl (g.1, 1500, .inl (aI rl))), ((md 23), .inl (g.1, 1500, .inl (aI rx))), ((md 24), .inl (g.1, 1500, .inl (aI ry))), ((md 25), .inl (g.1, 1500, .inl (aI rs))), ((md 26), .inl (g.1, 1500, .inl (aI rt)))] H := hP
            have hD : va_D A [(hm, .inr (5, [.int (jI co), .int (jI ly), .int (jI nt), .ref (md 3), .int (jI ns), .ref (md 5), .ref (md 6), .ref (md 7), .int (jI nd), .ref (md 9), .ref (md 10), .ref (md 11), .int (jI np), .ref (md 13), .ref (md 14), .ref (md 15), .ref (md 16), .ref (md 17), .ref (md 18), .ref (md 19), .ref (md 20), .int (jI nq), .ref (md 22), .ref (md 23), .ref (md 24), .ref (md 25), .ref (md 26), .int (jI tq), .ref (md 28), .ref (md 29), .ref (md 30)])), ((md 5), .inl (g.1, 200, .inl (aI sn))), ((md 6), .inl (g.1, 200, .inl (aI sl))), ((md 7), .inl (g.1, 800, .inl (aI bo))), ((md 13), .inl (g.1, 60, .inl (aI qn))), ((md 14), .inl (g.1, 60, .inl (aI qs))), ((md 15), .inl (g.1, 60, .inl (aI qx))), ((md 16), .inl (g.1, 60, .inl (aI qy))), ((md 22), .inl (g.1, 1500, .inl (aI rl))), ((md 23), .inl (g.1, 1500, .inl (aI rx))), ((md 24), .inl (g.1, 1500, .inl (aI ry))), ((md 25), .inl (g.1, 1500, .inl (aI rs))), ((md 26), .inl (g.1, 1500, .inl (aI rt)))] := hD
            refine jv_if_ne (tgt := 203) hx hb ⟨by omega, by omega⟩ dX5_fits_196 (by decide) (fun c196 => ?_) (fun c196 => ?_)
            · skip
              refine jv_iconst hx hb dX5_fits_203 ?_
              refine lv_istore (lv' := [(8, .int (jI 0)), (0, .ref hm), (1, .int (jI layer)), (2, .int (jI tl9)), (3, .int (jI px9)), (4, .int (jI py9)), (5, .int (jI sz9)), (6, .int (jI sp9)), (7, .int (jI aw9)), (9, .int (jI i))]) hx hb dX5_fits_204 hl (by decide) rfl (fun ls hl => ?_)
              refine jv_iinc (lv2 := [(9, .int (jI (i + 1))), (8, .int (jI 0)), (0, .ref hm), (1, .int (jI layer)), (2, .int (jI tl9)), (3, .int (jI px9)), (4, .int (jI py9)), (5, .int (jI sz9)), (6, .int (jI sp9)), (7, .int (jI aw9))]) hx hb dX5_fits_206 hl (k := 9) rfl (by decide) rfl (fun ls hl => ?_)
              refine lv_goto (tgt := 119) hx hb dX5_fits_209 (by decide) ?_
              exact ihL119 (i + 1) 0 (by omega) (by
                rcases hg with q9 | q9
                · first
                  | exact Or.inl ⟨rfl, q9.2.1, any_s hi.1 (map_get (fun d : jD => d.1) hq) q9.2.2 (fun _ => dec_f (by omega))⟩
                  | exact Or.inr ⟨rfl, by
                      unfold bad0
                      rw [any_at (map_get (fun d : jD => d.1) hq) (onL_t (by omega)) (show (gt0 px9 py9 sz9 aw9) q.1 = true from dec_t (by omega))]
                      simp⟩
                · omega) (by omega) _ _ _ (hP.sub [0, 1, 2, 3, 4, 5, 6, 7, 8, 9, 10, 11, 12] rfl) (hD.sub [0, 1, 2, 3, 4, 5, 6, 7, 8, 9, 10, 11, 12] (by decide) rfl) hS (lv_sub hl [2, 3, 4, 5, 6, 7, 8, 9, 1, 0] rfl)
            · skip
              refine jv_iconst hx hb dX5_fits_199 ?_
              refine lv_goto (tgt := 204) hx hb dX5_fits_200 (by decide) ?_
              refine lv_istore (lv' := [(8, .int (jI 1)), (0, .ref hm), (1, .int (jI layer)), (2, .int (jI tl9)), (3, .int (jI px9)), (4, .int (jI py9)), (5, .int (jI sz9)), (6, .int (jI sp9)), (7, .int (jI aw9)), (9, .int (jI i))]) hx hb dX5_fits_204 hl (by decide) rfl (fun ls hl => ?_)
              refine jv_iinc (lv2 := [(9, .int (jI (i + 1))), (8, .int (jI 1)), (0, .ref hm), (1, .int (jI layer)), (2, .int (jI tl9)), (3, .int (jI px9)), (4, .int (jI py9)), (5, .int (jI sz9)), (6, .int (jI sp9)), (7, .int (jI aw9))]) hx hb dX5_fits_206 hl (k := 9) rfl (by decide) rfl (fun ls hl => ?_)
              refine lv_goto (tgt := 119) hx hb dX5_fits_209 (by decide) ?_
              exact ihL119 (i + 1) 1 (by omega) (by
                rcases hg with q9 | q9
                · first
                  | exact Or.inl ⟨rfl, q9.2.1, any_s hi.1 (map_get (fun d : jD => d.1) hq) q9.2.2 (fun _ => dec_f (by omega))⟩
                  | exact Or.inr ⟨rfl, by
                      unfold bad0
                      rw [any_at (map_get (fun d : jD => d.1) hq) (onL_t (by omega)) (show (gt0 px9 py9 sz9 aw9) q.1 = true from dec_t (by omega))]
                      simp⟩
                · omega) (by omega) _ _ _ (hP.sub [0, 1, 2, 3, 4, 5, 6, 7, 8, 9, 10, 11, 12] rfl) (hD.sub [0, 1, 2, 3, 4, 5, 6, 7, 8, 9, 10, 11, 12] (by decide) rfl) hS (lv_sub hl [2, 3, 4, 5, 6, 7, 8, 9, 1, 0] rfl)
  have L6 : ∀ (fuel : Nat) (i : Int) (gd : Int), (0 ≤ i ∧ i ≤ ns) → ((gd = 1 ∧ ((pre L i).filter (onL layer)).any (gt0 px9 py9 sz9 aw9) = false) ∨ (gd = 0 ∧ (bad0 px9 py9 sz9 aw9 sp9 L (DD.map fun d => d.1) (pre LP na) layer) = true)) → (ns + 1 - i < (fuel : Int)) → ∀ (H : Heap) (locs : List Loc) (ls : Array Slot), va_P D jcl [(hm, .inr (5, [.int (jI co), .int (jI ly), .int (jI nt), .ref (md 3), .int (jI ns), .ref (md 5), .ref (md 6), .ref (md 7), .int (jI nd), .ref (md 9), .ref (md 10), .ref (md 11), .int (jI np), .ref (md 13), .ref (md 14), .ref (md 15), .ref (md 16), .ref (md 17), .ref (md 18), .ref (md 19), .ref (md 20), .int (jI nq), .ref (md 22), .ref (md 23), .ref (md 24), .ref (md 25), .ref (md 26), .int (jI tq), .ref (md 28), .ref (md 29), .ref (md 30)])), ((md 5), .inl (g.1, 200, .inl (aI sn))), ((md 6), .inl (g.1, 200, .inl (aI sl))), ((md 7), .inl (g.1, 800, .inl (aI bo))), ((md 13), .inl (g.1, 60, .inl (aI qn))), ((md 14), .inl (g.1, 60, .inl (aI qs))), ((md 15), .inl (g.1, 60, .inl (aI qx))), ((md 16), .inl (g.1, 60, .inl (aI qy))), ((md 22), .inl (g.1, 1500, .inl (aI rl))), ((md 23), .inl (g.1, 1500, .inl (aI rx))), ((md 24), .inl (g.1, 1500, .inl (aI ry))), ((md 25), .inl (g.1, 1500, .inl (aI rs))), ((md 26), .inl (g.1, 1500, .inl (aI rt)))] H → va_D A [(hm, .inr (5, [.int (jI co), .int (jI ly), .int (jI nt), .ref (md 3), .int (jI ns), .ref (md 5), .ref (md 6), .ref (md 7), .int (jI nd), .ref (md 9), .ref (md 10), .ref (md 11), .int (jI np), .ref (md 13), .ref (md 14), .ref (md 15), .ref (md 16), .ref (md 17), .ref (md 18), .ref (md 19), .ref (md 20), .int (jI nq), .ref (md 22), .ref (md 23), .ref (md 24), .ref (md 25), .ref (md 26), .int (jI tq), .ref (md 28), .ref (md 29), .ref (md 30)])), ((md 5), .inl (g.1, 200, .inl (aI sn))), ((md 6), .inl (g.1, 200, .inl (aI sl))), ((md 7), .inl (g.1, 800, .inl (aI bo))), ((md 13), .inl (g.1, 60, .inl (aI qn))), ((md 14), .inl (g.1, 60, .inl (aI qs))), ((md 15), .inl (g.1, 60, .inl (aI qx))), ((md 16), .inl (g.1, 60, .inl (aI qy))), ((md 22), .inl (g.1, 1500, .inl (aI rl))), ((md 23), .inl (g.1, 1500, .inl (aI rx))), ((md 24), .inl (g.1, 1500, .inl (aI ry))), ((md 25), .inl (g.1, 1500, .inl (aI rs))), ((md 26), .inl (g.1, 1500, .inl (aI rt)))] → va_S A s.heap H locs → lv_has ls 11 [(0, .ref hm), (1, .int (jI layer)), (2, .int (jI tl9)), (3, .int (jI px9)), (4, .int (jI py9)), (5, .int (jI sz9)), (6, .int (jI sp9)), (7, .int (jI aw9)), (8, .int (jI gd)), (9, .int (jI i))] → W p l e (jR 2 60) s m args below meth c H locs 0 0 Q (F0 m 6 ls []) := by
    intro fuel
    induction fuel with
    | zero =>
      intro i gd hi hg hfu
      exfalso; omega
    | succ fuel ihL6 =>
      intro i gd hi hg hfu H locs ls hP hD hS hl
      have hgd : gd = 0 ∨ gd = 1 := by rcases hg with q9 | q9 <;> omega
      refine lv_iload hx hb dX5_fits_6 (lv_at hl 9 rfl) ?_
      refine lv_aload_n hx hb dX5_fits_8 rfl (lv_at hl 0 rfl) ?_
      refine va_get (D := D) (ci := 5) (v := .int (jI ns)) (C := RX5) (T := TX5) (N := 31) hx hb hts inX5 hown hK hP 0 rfl rfl 4 (by decide) f102 (fun _ h9 => h9) rfl dX5_fits_9 ?_
      refine jv_icmp_ge (tgt := 116) hx hb ⟨by omega, by omega⟩ ⟨by omega, by omega⟩ dX5_fits_12 (by decide) (fun c12 => ?_) (fun c12 => ?_)
      · skip
        refine jv_iconst hx hb dX5_fits_116 ?_
        refine lv_istore (lv' := [(9, .int (jI 0)), (0, .ref hm), (1, .int (jI layer)), (2, .int (jI tl9)), (3, .int (jI px9)), (4, .int (jI py9)), (5, .int (jI sz9)), (6, .int (jI sp9)), (7, .int (jI aw9)), (8, .int (jI gd))]) hx hb dX5_fits_117 hl (by decide) rfl (fun ls hl => ?_)
        exact L119 ((np + 1 - 0).toNat + 1) 0 gd (by omega) (by
          rcases hg with q9 | q9
          · exact Or.inl ⟨q9.1, by rw [← pre_all (L := L) (i := i) (by omega)]; exact q9.2, by rw [pre_0]; rfl⟩
          · exact Or.inr q9) (by omega) _ _ _ (hP.sub [0, 1, 2, 3, 4, 5, 6, 7, 8, 9, 10, 11, 12] rfl) (hD.sub [0, 1, 2, 3, 4, 5, 6, 7, 8, 9, 10, 11, 12] (by decide) rfl) hS (lv_sub hl [1, 2, 3, 4, 5, 6, 7, 8, 9, 0] rfl)
      · skip
        obtain ⟨q, hq, e0, e1, e2, e3, e4, e5, hok⟩ := ms_at hms (k := i) ⟨hi.1, by omega⟩
        unfold okQ at hok
        refine lv_iload hx hb dX5_fits_15 (lv_at hl 8 rfl) ?_
        refine jv_if_eq (tgt := 116) hx hb ⟨by omega, by omega⟩ dX5_fits_17 (by decide) (fun c17 => ?_) (fun c17 => ?_)
        · skip
          have hgz : gd = 0 := c17
          refine jv_iconst hx hb dX5_fits_116 ?_
          refine lv_istore (lv' := [(9, .int (jI 0)), (0, .ref hm), (1, .int (jI layer)), (2, .int (jI tl9)), (3, .int (jI px9)), (4, .int (jI py9)), (5, .int (jI sz9)), (6, .int (jI sp9)), (7, .int (jI aw9)), (8, .int (jI gd))]) hx hb dX5_fits_117 hl (by decide) rfl (fun ls hl => ?_)
          exact L119 ((np + 1 - 0).toNat + 1) 0 gd (by omega) (by
            rcases hg with q9 | q9
            · exact Or.inl ⟨q9.1, by rw [← pre_all (L := L) (i := i) (by omega)]; exact q9.2, by rw [pre_0]; rfl⟩
            · exact Or.inr q9) (by omega) _ _ _ (hP.sub [0, 1, 2, 3, 4, 5, 6, 7, 8, 9, 10, 11, 12] rfl) (hD.sub [0, 1, 2, 3, 4, 5, 6, 7, 8, 9, 10, 11, 12] (by decide) rfl) hS (lv_sub hl [1, 2, 3, 4, 5, 6, 7, 8, 9, 0] rfl)
        · skip
          refine lv_aload_n hx hb dX5_fits_20 rfl (lv_at hl 0 rfl) ?_
          refine va_get (D := D) (ci := 5) (v := .ref (md 6)) (C := RX5) (T := TX5) (N := 31) hx hb hts inX5 hown hK hP 0 rfl rfl 6 (by decide) f17 (fun _ h9 => h9) rfl dX5_fits_21 ?_
          refine lv_iload hx hb dX5_fits_24 (lv_at hl 9 rfl) ?_
          refine jv_iald hx hb hK hP 2 0 rfl rfl (i := i) ⟨by omega, by omega⟩ (Nat.le_of_ble_eq_true rfl) dX5_fits_26 ?_
          refine lv_iload_n hx hb dX5_fits_27 rfl (lv_at hl 1 rfl) ?_
          refine jv_icmp_ne (tgt := 103) hx hb ⟨by omega, by omega⟩ ⟨by omega, by omega⟩ dX5_fits_28 (by decide) (fun c28 => ?_) (fun c28 => ?_)
          · skip
            refine jv_iconst hx hb dX5_fits_103 ?_
            refine lv_goto (tgt := 108) hx hb dX5_fits_104 (by decide) ?_
            refine lv_istore (lv' := [(8, .int (jI 1)), (0, .ref hm), (1, .int (jI layer)), (2, .int (jI tl9)), (3, .int (jI px9)), (4, .int (jI py9)), (5, .int (jI sz9)), (6, .int (jI sp9)), (7, .int (jI aw9)), (9, .int (jI i))]) hx hb dX5_fits_108 hl (by decide) rfl (fun ls hl => ?_)
            refine jv_iinc (lv2 := [(9, .int (jI (i + 1))), (8, .int (jI 1)), (0, .ref hm), (1, .int (jI layer)), (2, .int (jI tl9)), (3, .int (jI px9)), (4, .int (jI py9)), (5, .int (jI sz9)), (6, .int (jI sp9)), (7, .int (jI aw9))]) hx hb dX5_fits_110 hl (k := 9) rfl (by decide) rfl (fun ls hl => ?_)
            refine lv_goto (tgt := 6) hx hb dX5_fits_113 (by decide) ?_
            exact ihL6 (i + 1) 1 (by omega) (by
              rcases hg with q9 | q9
              · first
                | exact Or.inl ⟨rfl, any_s hi.1 hq q9.2 (fun r => absurd (decide_eq_true_iff.mp r) (by omega))⟩
                | exact Or.inl ⟨rfl, any_s hi.1 hq q9.2 (fun _ => dec_f (by omega))⟩
                | exact Or.inr ⟨rfl, by
                    unfold bad0
                    rw [any_at hq (onL_t (by omega)) (show (gt0 px9 py9 sz9 aw9) q = true from dec_t (by omega))]
                    simp⟩
              · omega) (by omega) _ _ _ (hP.sub [0, 1, 2, 3, 4, 5, 6, 7, 8, 9, 10, 11, 12] rfl) (hD.sub [0, 1, 2, 3, 4, 5, 6, 7, 8, 9, 10, 11, 12] (by decide) rfl) hS (lv_sub hl [2, 3, 4, 5, 6, 7, 8, 9, 1, 0] rfl)
          · skip
            refine lv_iload_n hx hb dX5_fits_31 rfl (lv_at hl 3 rfl) ?_
            refine lv_iload hx hb dX5_fits_32 (lv_at hl 7 rfl) ?_
            refine jv_isub hx hb dX5_fits_34 ?_
            refine lv_iload hx hb dX5_fits_35 (lv_at hl 4 rfl) ?_
            refine lv_iload hx hb dX5_fits_37 (lv_at hl 7 rfl) ?_
            refine jv_isub hx hb dX5_fits_39 ?_
            refine lv_iload_n hx hb dX5_fits_40 rfl (lv_at hl 3 rfl) ?_
            refine lv_iload hx hb dX5_fits_41 (lv_at hl 5 rfl) ?_
            refine jv_iadd hx hb dX5_fits_43 ?_
            refine lv_iload hx hb dX5_fits_44 (lv_at hl 7 rfl) ?_
            refine jv_iadd hx hb dX5_fits_46 ?_
            refine lv_iload hx hb dX5_fits_47 (lv_at hl 4 rfl) ?_
            refine lv_iload hx hb dX5_fits_49 (lv_at hl 5 rfl) ?_
            refine jv_iadd hx hb dX5_fits_51 ?_
            refine lv_iload hx hb dX5_fits_52 (lv_at hl 7 rfl) ?_
            refine jv_iadd hx hb dX5_fits_54 ?_
            refine lv_aload_n hx hb dX5_fits_55 rfl (lv_at hl 0 rfl) ?_
            refine va_get (D := D) (ci := 5) (v := .ref (md 7)) (C := RX5) (T := TX5) (N := 31) hx hb hts inX5 hown hK hP 0 rfl rfl 7 (by decide) f20 (fun _ h9 => h9) rfl dX5_fits_56 ?_
            refine jv_iconst hx hb dX5_fits_59 ?_
            refine lv_iload hx hb dX5_fits_60 (lv_at hl 9 rfl) ?_
            refine jv_imul hx hb dX5_fits_62 ?_
            refine jv_iald hx hb hK hP 3 0 rfl rfl (i := (4 * i)) ⟨by omega, by omega⟩ (Nat.le_of_ble_eq_true rfl) dX5_fits_63 ?_
            refine lv_aload_n hx hb dX5_fits_64 rfl (lv_at hl 0 rfl) ?_
            refine va_get (D := D) (ci := 5) (v := .ref (md 7)) (C := RX5) (T := TX5) (N := 31) hx hb hts inX5 hown hK hP 0 rfl rfl 7 (by decide) f20 (fun _ h9 => h9) rfl dX5_fits_65 ?_
            refine jv_iconst hx hb dX5_fits_68 ?_
            refine lv_iload hx hb dX5_fits_69 (lv_at hl 9 rfl) ?_
            refine jv_imul hx hb dX5_fits_71 ?_
            refine jv_iconst hx hb dX5_fits_72 ?_
            refine jv_iadd hx hb dX5_fits_73 ?_
            refine jv_iald hx hb hK hP 3 0 rfl rfl (i := ((4 * i) + 1)) ⟨by omega, by omega⟩ (Nat.le_of_ble_eq_true rfl) dX5_fits_74 ?_
            refine lv_aload_n hx hb dX5_fits_75 rfl (lv_at hl 0 rfl) ?_
            refine va_get (D := D) (ci := 5) (v := .ref (md 7)) (C := RX5) (T := TX5) (N := 31) hx hb hts inX5 hown hK hP 0 rfl rfl 7 (by decide) f20 (fun _ h9 => h9) rfl dX5_fits_76 ?_
            refine jv_iconst hx hb dX5_fits_79 ?_
            refine lv_iload hx hb dX5_fits_80 (lv_at hl 9 rfl) ?_
            refine jv_imul hx hb dX5_fits_82 ?_
            refine jv_iconst hx hb dX5_fits_83 ?_
            refine jv_iadd hx hb dX5_fits_84 ?_
            refine jv_iald hx hb hK hP 3 0 rfl rfl (i := ((4 * i) + 2)) ⟨by omega, by omega⟩ (Nat.le_of_ble_eq_true rfl) dX5_fits_85 ?_
            refine lv_aload_n hx hb dX5_fits_86 rfl (lv_at hl 0 rfl) ?_
            refine va_get (D := D) (ci := 5) (v := .ref (md 7)) (C := RX5) (T := TX5) (N := 31) hx hb hts inX5 hown hK hP 0 rfl rfl 7 (by decide) f20 (fun _ h9 => h9) rfl dX5_fits_87 ?_
            refine jv_iconst hx hb dX5_fits_90 ?_
            refine lv_iload hx hb dX5_fits_91 (lv_at hl 9 rfl) ?_
            refine jv_imul hx hb dX5_fits_93 ?_
            refine jv_iconst hx hb dX5_fits_94 ?_
            refine jv_iadd hx hb dX5_fits_95 ?_
            refine jv_iald hx hb hK hP 3 0 rfl rfl (i := ((4 * i) + 3)) ⟨by omega, by omega⟩ (Nat.le_of_ble_eq_true rfl) dX5_fits_96 ?_
            refine jc_Si (As := [.int (jI (px9 - aw9)), .int (jI (py9 - aw9)), .int (jI ((px9 + sz9) + aw9)), .int (jI ((py9 + sz9) + aw9)), .int (jI (bo (4 * i))), .int (jI (bo ((4 * i) + 1))), .int (jI (bo ((4 * i) + 2))), .int (jI (bo ((4 * i) + 3)))]) (rest := []) (wq := [(hm, .inr (5, [.int (jI co), .int (jI ly), .int (jI nt), .ref (md 3), .int (jI ns), .ref (md 5), .ref (md 6), .ref (md 7), .int (jI nd), .ref (md 9), .ref (md 10), .ref (md 11), .int (jI np), .ref (md 13), .ref (md 14), .ref (md 15), .ref (md 16), .ref (md 17), .ref (md 18), .ref (md 19), .ref (md 20), .int (jI nq), .ref (md 22), .ref (md 23), .ref (md 24), .ref (md 25), .ref (md 26), .int (jI tq), .ref (md 28), .ref (md 29), .ref (md 30)])), ((md 5), .inl (g.1, 200, .inl (aI sn))), ((md 6), .inl (g.1, 200, .inl (aI sl))), ((md 7), .inl (g.1, 800, .inl (aI bo))), ((md 13), .inl (g.1, 60, .inl (aI qn))), ((md 14), .inl (g.1, 60, .inl (aI qs))), ((md 15), .inl (g.1, 60, .inl (aI qx))), ((md 16), .inl (g.1, 60, .inl (aI qy))), ((md 22), .inl (g.1, 1500, .inl (aI rl))), ((md 23), .inl (g.1, 1500, .inl (aI rx))), ((md 24), .inl (g.1, 1500, .inl (aI ry))), ((md 25), .inl (g.1, 1500, .inl (aI rs))), ((md 26), .inl (g.1, 1500, .inl (aI rt)))]) ⟨hx, hb, hml, hown, hts⟩ (tX5_areOver l D g (px9 - aw9) (py9 - aw9) ((px9 + sz9) + aw9) ((py9 + sz9) + aw9) (bo (4 * i)) (bo ((4 * i) + 1)) (bo ((4 * i) + 2)) (bo ((4 * i) + 3)) (⟨⟨by omega, by omega⟩, ⟨by omega, by omega⟩, ⟨by omega, by omega⟩, ⟨by omega, by omega⟩, ⟨by omega, by omega⟩, ⟨by omega, by omega⟩, ⟨by omega, by omega⟩, ⟨by omega, by omega⟩⟩)) (va_cwS 8 hts gX5_fits_X5_areOver rfl rfl rfl (by decide +kernel) ⟨Nat.le_of_ble_eq_true rfl, Nat.le_of_ble_eq_true rfl⟩) hK hP hD hS hA [] [0, 1, 2, 3, 4, 5, 6, 7, 8, 9, 10, 11, 12] rfl rfl (by decide) (by decide) (by decide) rfl rfl hl.1 (Nat.le_of_ble_eq_true rfl) dX5_fits_97 ⟨Nat.le_of_ble_eq_true rfl, Nat.le_of_ble_eq_true rfl⟩ (fun za9 u H locs hu hP hD hS => ?_)
            have hu : (za9 = 1 ∧ ((px9 - aw9) < (bo ((4 * i) + 2)) ∧ (bo (4 * i)) < ((px9 + sz9) + aw9) ∧ (py9 - aw9) < (bo ((4 * i) + 3)) ∧ (bo ((4 * i) + 1)) < ((py9 + sz9) + aw9))) ∨ (za9 = 0 ∧ ¬ ((px9 - aw9) < (bo ((4 * i) + 2)) ∧ (bo (4 * i)) < ((px9 + sz9) + aw9) ∧ (py9 - aw9) < (bo ((4 * i) + 3)) ∧ (bo ((4 * i) + 1)) < ((py9 + sz9) + aw9))) := hu
            have hza := hu
            have hP : va_P D jcl [(hm, .inr (5, [.int (jI co), .int (jI ly), .int (jI nt), .ref (md 3), .int (jI ns), .ref (md 5), .ref (md 6), .ref (md 7), .int (jI nd), .ref (md 9), .ref (md 10), .ref (md 11), .int (jI np), .ref (md 13), .ref (md 14), .ref (md 15), .ref (md 16), .ref (md 17), .ref (md 18), .ref (md 19), .ref (md 20), .int (jI nq), .ref (md 22), .ref (md 23), .ref (md 24), .ref (md 25), .ref (md 26), .int (jI tq), .ref (md 28), .ref (md 29), .ref (md 30)])), ((md 5), .inl (g.1, 200, .inl (aI sn))), ((md 6), .inl (g.1, 200, .inl (aI sl))), ((md 7), .inl (g.1, 800, .inl (aI bo))), ((md 13), .inl (g.1, 60, .inl (aI qn))), ((md 14), .inl (g.1, 60, .inl (aI qs))), ((md 15), .inl (g.1, 60, .inl (aI qx))), ((md 16), .inl (g.1, 60, .inl (aI qy))), ((md 22), .inl (g.1, 1500, .inl (aI rl))), ((md 23), .inl (g.1, 1500, .inl (aI rx))), ((md 24), .inl (g.1, 1500, .inl (aI ry))), ((md 25), .inl (g.1, 1500, .inl (aI rs))), ((md 26), .inl (g.1, 1500, .inl (aI rt)))] H := hP
            have hD : va_D A [(hm, .inr (5, [.int (jI co), .int (jI ly), .int (jI nt), .ref (md 3), .int (jI ns), .ref (md 5), .ref (md 6), .ref (md 7), .int (jI nd), .ref (md 9), .ref (md 10), .ref (md 11), .int (jI np), .ref (md 13), .ref (md 14), .ref (md 15), .ref (md 16), .ref (md 17), .ref (md 18), .ref (md 19), .ref (md 20), .int (jI nq), .ref (md 22), .ref (md 23), .ref (md 24), .ref (md 25), .ref (md 26), .int (jI tq), .ref (md 28), .ref (md 29), .ref (md 30)])), ((md 5), .inl (g.1, 200, .inl (aI sn))), ((md 6), .inl (g.1, 200, .inl (aI sl))), ((md 7), .inl (g.1, 800, .inl (aI bo))), ((md 13), .inl (g.1, 60, .inl (aI qn))), ((md 14), .inl (g.1, 60, .inl (aI qs))), ((md 15), .inl (g.1, 60, .inl (aI qx))), ((md 16), .inl (g.1, 60, .inl (aI qy))), ((md 22), .inl (g.1, 1500, .inl (aI rl))), ((md 23), .inl (g.1, 1500, .inl (aI rx))), ((md 24), .inl (g.1, 1500, .inl (aI ry))), ((md 25), .inl (g.1, 1500, .inl (aI rs))), ((md 26), .inl (g.1, 1500, .inl (aI rt)))] := hD
            refine jv_if_ne (tgt := 107) hx hb ⟨by omega, by omega⟩ dX5_fits_100 (by decide) (fun c100 => ?_) (fun c100 => ?_)
            · skip
              refine jv_iconst hx hb dX5_fits_107 ?_
              refine lv_istore (lv' := [(8, .int (jI 0)), (0, .ref hm), (1, .int (jI layer)), (2, .int (jI tl9)), (3, .int (jI px9)), (4, .int (jI py9)), (5, .int (jI sz9)), (6, .int (jI sp9)), (7, .int (jI aw9)), (9, .int (jI i))]) hx hb dX5_fits_108 hl (by decide) rfl (fun ls hl => ?_)
              refine jv_iinc (lv2 := [(9, .int (jI (i + 1))), (8, .int (jI 0)), (0, .ref hm), (1, .int (jI layer)), (2, .int (jI tl9)), (3, .int (jI px9)), (4, .int (jI py9)), (5, .int (jI sz9)), (6, .int (jI sp9)), (7, .int (jI aw9))]) hx hb dX5_fits_110 hl (k := 9) rfl (by decide) rfl (fun ls hl => ?_)
              refine lv_goto (tgt := 6) hx hb dX5_fits_113 (by decide) ?_
              exact ihL6 (i + 1) 0 (by omega) (by
                rcases hg with q9 | q9
                · first
                  | exact Or.inl ⟨rfl, any_s hi.1 hq q9.2 (fun r => absurd (decide_eq_true_iff.mp r) (by omega))⟩
                  | exact Or.inl ⟨rfl, any_s hi.1 hq q9.2 (fun _ => dec_f (by omega))⟩
                  | exact Or.inr ⟨rfl, by
                      unfold bad0
                      rw [any_at hq (onL_t (by omega)) (show (gt0 px9 py9 sz9 aw9) q = true from dec_t (by omega))]
                      simp⟩
                · omega) (by omega) _ _ _ (hP.sub [0, 1, 2, 3, 4, 5, 6, 7, 8, 9, 10, 11, 12] rfl) (hD.sub [0, 1, 2, 3, 4, 5, 6, 7, 8, 9, 10, 11, 12] (by decide) rfl) hS (lv_sub hl [2, 3, 4, 5, 6, 7, 8, 9, 1, 0] rfl)
            · skip
              refine jv_iconst hx hb dX5_fits_103 ?_
              refine lv_goto (tgt := 108) hx hb dX5_fits_104 (by decide) ?_
              refine lv_istore (lv' := [(8, .int (jI 1)), (0, .ref hm), (1, .int (jI layer)), (2, .int (jI tl9)), (3, .int (jI px9)), (4, .int (jI py9)), (5, .int (jI sz9)), (6, .int (jI sp9)), (7, .int (jI aw9)), (9, .int (jI i))]) hx hb dX5_fits_108 hl (by decide) rfl (fun ls hl => ?_)
              refine jv_iinc (lv2 := [(9, .int (jI (i + 1))), (8, .int (jI 1)), (0, .ref hm), (1, .int (jI layer)), (2, .int (jI tl9)), (3, .int (jI px9)), (4, .int (jI py9)), (5, .int (jI sz9)), (6, .int (jI sp9)), (7, .int (jI aw9))]) hx hb dX5_fits_110 hl (k := 9) rfl (by decide) rfl (fun ls hl => ?_)
              refine lv_goto (tgt := 6) hx hb dX5_fits_113 (by decide) ?_
              exact ihL6 (i + 1) 1 (by omega) (by
                rcases hg with q9 | q9
                · first
                  | exact Or.inl ⟨rfl, any_s hi.1 hq q9.2 (fun r => absurd (decide_eq_true_iff.mp r) (by omega))⟩
                  | exact Or.inl ⟨rfl, any_s hi.1 hq q9.2 (fun _ => dec_f (by omega))⟩
                  | exact Or.inr ⟨rfl, by
                      unfold bad0
                      rw [any_at hq (onL_t (by omega)) (show (gt0 px9 py9 sz9 aw9) q = true from dec_t (by omega))]
                      simp⟩
                · omega) (by omega) _ _ _ (hP.sub [0, 1, 2, 3, 4, 5, 6, 7, 8, 9, 10, 11, 12] rfl) (hD.sub [0, 1, 2, 3, 4, 5, 6, 7, 8, 9, 10, 11, 12] (by decide) rfl) hS (lv_sub hl [2, 3, 4, 5, 6, 7, 8, 9, 1, 0] rfl)
  refine jv_iconst hx hb dX5_fits_0 ?_
  refine lv_istore (lv' := [(8, .int (jI 1)), (0, .ref hm), (1, .int (jI layer)), (2, .int (jI tl9)), (3, .int (jI px9)), (4, .int (jI py9)), (5, .int (jI sz9)), (6, .int (jI sp9)), (7, .int (jI aw9))]) hx hb dX5_fits_1 hl (by decide) rfl (fun ls hl => ?_)
  refine jv_iconst hx hb dX5_fits_3 ?_
  refine lv_istore (lv' := [(9, .int (jI 0)), (8, .int (jI 1)), (0, .ref hm), (1, .int (jI layer)), (2, .int (jI tl9)), (3, .int (jI px9)), (4, .int (jI py9)), (5, .int (jI sz9)), (6, .int (jI sp9)), (7, .int (jI aw9))]) hx hb dX5_fits_4 hl (by decide) rfl (fun ls hl => ?_)
  exact L6 ((ns + 1 - 0).toNat + 1) 0 1 (by omega) (Or.inl ⟨rfl, by rw [pre_0]; rfl⟩) (by omega) _ _ _ (hP.sub [0, 1, 2, 3, 4, 5, 6, 7, 8, 9, 10, 11, 12] rfl) (hD.sub [0, 1, 2, 3, 4, 5, 6, 7, 8, 9, 10, 11, 12] (by decide) rfl) hS (lv_sub hl [2, 3, 4, 5, 6, 7, 8, 9, 1, 0] rfl)
