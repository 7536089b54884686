set_option maxHeartbeats 4000000 in
set_option maxRecDepth 100000 in
/-- diode -/
theorem tX5_diode (l : Launch) (D : va_G) (g : ClassId × ClassId × ClassId) (hm : Nat) (md : Nat → Nat) (co : Int) (ly : Int) (nt : Int) (ns : Int) (nd : Int) (np : Int) (nq : Int) (tq : Int) (tn : Int → Int) (tl : Int → Int) (ta : Int → Int) (TD : List (Int × Int × Int)) (qn : Int → Int) (qs : Int → Int) (qx : Int → Int) (qy : Int → Int) (DD : List jD) (net : Int) (layer : Int) (v9 : Int) (hmt : mtI tn tl ta nd TD) (hnd : nd ≤ 100) (hmd : mdI qn qs qx qy np DD) (hnp : np ≤ 60) (hd2 : ∀ d ∈ DD, 0 ≤ d.2 ∧ d.2 < 64) (hnt : 0 ≤ nt ∧ nt ≤ 40) (hly : 1 ≤ ly ∧ ly ≤ 64) (hri : rI net ∧ rI layer ∧ rL v9) : jMi l D g yX5_diode wsX5_diode 2 80 [.ref hm, .int (jI net), .int (jI layer), .long (jL v9)] [(hm, .inr (5, [.int (jI co), .int (jI ly), .int (jI nt), .ref (md 3), .int (jI ns), .ref (md 5), .ref (md 6), .ref (md 7), .int (jI nd), .ref (md 9), .ref (md 10), .ref (md 11), .int (jI np), .ref (md 13), .ref (md 14), .ref (md 15), .ref (md 16), .ref (md 17), .ref (md 18), .ref (md 19), .ref (md 20), .int (jI nq), .ref (md 22), .ref (md 23), .ref (md 24), .ref (md 25), .ref (md 26), .int (jI tq), .ref (md 28), .ref (md 29), .ref (md 30)])), ((md 9), .inl (g.1, 100, .inl (aI tn))), ((md 10), .inl (g.1, 100, .inl (aI tl))), ((md 11), .inl (g.2.1, 100, .inr (.inl (aL ta)))), ((md 13), .inl (g.1, 60, .inl (aI qn))), ((md 14), .inl (g.1, 60, .inl (aI qs))), ((md 15), .inl (g.1, 60, .inl (aI qx))), ((md 16), .inl (g.1, 60, .inl (aI qy)))] (S := Int × Int × (Int → Int) × (Int → Int) × (Int → Int)) (fun z u => (((u.1 = 1 ∧ ¬ ((0 ≤ net ∧ net < nt) ∧ (0 ≤ layer ∧ layer < ly))) ∨ (u.1 = 2 ∧ ((0 ≤ net ∧ net < nt) ∧ (0 ≤ layer ∧ layer < ly)) ∧ nd = 100) ∨ (u.1 = 3 ∧ ((0 ≤ net ∧ net < nt) ∧ (0 ≤ layer ∧ layer < ly)) ∧ nd < 100 ∧ ¬ (1 ≤ v9 ∧ v9 ≤ 1000000))) ∧ u.2.1 = nd ∧ u.2.2.1 = tn ∧ u.2.2.2.1 = tl ∧ u.2.2.2.2 = ta) ∨ (u.1 = 0 ∧ ((0 ≤ net ∧ net < nt) ∧ (0 ≤ layer ∧ layer < ly)) ∧ nd < 100 ∧ (1 ≤ v9 ∧ v9 ≤ 1000000) ∧ u.2.1 = nd + 1 ∧ mtI u.2.2.1 u.2.2.2.1 u.2.2.2.2 u.2.1 (TD ++ [(net, layer, v9)]) ∧ ((z = 1 ∧ dX TD DD net layer = 0) ∨ (z = 0 ∧ dX TD DD net layer ≠ 0)))) (fun u => [(hm, .inr (5, [.int (jI u.1), .int (jI ly), .int (jI nt), .ref (md 3), .int (jI ns), .ref (md 5), .ref (md 6), .ref (md 7), .int (jI u.2.1), .ref (md 9), .ref (md 10), .ref (md 11), .int (jI np), .ref (md 13), .ref (md 14), .ref (md 15), .ref (md 16), .ref (md 17), .ref (md 18), .ref (md 19), .ref (md 20), .int (jI nq), .ref (md 22), .ref (md 23), .ref (md 24), .ref (md 25), .ref (md 26), .int (jI tq), .ref (md 28), .ref (md 29), .ref (md 30)])), ((md 9), .inl (g.1, 100, .inl (aI u.2.2.1))), ((md 10), .inl (g.1, 100, .inl (aI u.2.2.2.1))), ((md 11), .inl (g.2.1, 100, .inr (.inl (aL u.2.2.2.2)))), ((md 13), .inl (g.1, 60, .inl (aI qn))), ((md 14), .inl (g.1, 60, .inl (aI qs))), ((md 15), .inl (g.1, 60, .inl (aI qx))), ((md 16), .inl (g.1, 60, .inl (aI qy)))]) := by
  refine jMz_of (cc := cX5_diode) (maxL := 7) (by decide) rfl (Nat.le_of_ble_eq_true rfl) ?_
  intro p e s m args below meth c Q A hx hb hml hts hown hK hA hret ls hl hP hD
  have hS : va_S A s.heap s.heap [] := va_S.rf
  have hown : s.vm.findClass RX5 = some m.cls := hown
  have f23 := hts (.fieldLink RX5 23 "AntennaFillModel" "diodeNet" "[I") (by decide +kernel)
  have f26 := hts (.fieldLink RX5 26 "AntennaFillModel" "diodeLayer" "[I") (by decide +kernel)
  have f29 := hts (.fieldLink RX5 29 "AntennaFillModel" "diodeArea" "[J") (by decide +kernel)
  have f32 := hts (.fieldLink RX5 32 "AntennaFillModel" "placedNet" "[I") (by decide +kernel)
  have f35 := hts (.fieldLink RX5 35 "AntennaFillModel" "placedLayer" "[I") (by decide +kernel)
  have f84 := hts (.fieldLink RX5 84 "AntennaFillModel" "code" "I") (by decide +kernel)
  have f136 := hts (.fieldLink RX5 136 "AntennaFillModel" "diodes" "I") (by decide +kernel)
  have f139 := hts (.fieldLink RX5 139 "AntennaFillModel" "placed" "I") (by decide +kernel)
  have inX5 : ∀ w ∈ wsX50, w ∈ wsX5_diode := by decide +kernel
  have k132 := hts (.constantLong RX5 132 (1000000)) (by decide +kernel)
  have hl : lv_has ls 7 [(0, .ref hm), (1, .int (jI net)), (2, .int (jI layer)), (3, .long (jL v9))] := hl
  have hl1 := hmt.1
  have hl2 := hmd.1
  have JC : ∀ (cv9 : Int), ((cv9 = 1 ∧ ¬ ((0 ≤ net ∧ net < nt) ∧ (0 ≤ layer ∧ layer < ly))) ∨ (cv9 = 2 ∧ ((0 ≤ net ∧ net < nt) ∧ (0 ≤ layer ∧ layer < ly)) ∧ nd = 100) ∨ (cv9 = 3 ∧ ((0 ≤ net ∧ net < nt) ∧ (0 ≤ layer ∧ layer < ly)) ∧ nd < 100 ∧ ¬ (1 ≤ v9 ∧ v9 ≤ 1000000)) ∨ (cv9 = 0 ∧ ((0 ≤ net ∧ net < nt) ∧ (0 ≤ layer ∧ layer < ly)) ∧ nd < 100 ∧ (1 ≤ v9 ∧ v9 ≤ 1000000))) → ∀ (H : Heap) (locs : List Loc) (ls : Array Slot), va_P D jcl [(hm, .inr (5, [.int (jI co), .int (jI ly), .int (jI nt), .ref (md 3), .int (jI ns), .ref (md 5), .ref (md 6), .ref (md 7), .int (jI nd), .ref (md 9), .ref (md 10), .ref (md 11), .int (jI np), .ref (md 13), .ref (md 14), .ref (md 15), .ref (md 16), .ref (md 17), .ref (md 18), .ref (md 19), .ref (md 20), .int (jI nq), .ref (md 22), .ref (md 23), .ref (md 24), .ref (md 25), .ref (md 26), .int (jI tq), .ref (md 28), .ref (md 29), .ref (md 30)])), ((md 9), .inl (g.1, 100, .inl (aI tn))), ((md 10), .inl (g.1, 100, .inl (aI tl))), ((md 11), .inl (g.2.1, 100, .inr (.inl (aL ta)))), ((md 13), .inl (g.1, 60, .inl (aI qn))), ((md 14), .inl (g.1, 60, .inl (aI qs))), ((md 15), .inl (g.1, 60, .inl (aI qx))), ((md 16), .inl (g.1, 60, .inl (aI qy)))] H → va_D A [(hm, .inr (5, [.int (jI co), .int (jI ly), .int (jI nt), .ref (md 3), .int (jI ns), .ref (md 5), .ref (md 6), .ref (md 7), .int (jI nd), .ref (md 9), .ref (md 10), .ref (md 11), .int (jI np), .ref (md 13), .ref (md 14), .ref (md 15), .ref (md 16), .ref (md 17), .ref (md 18), .ref (md 19), .ref (md 20), .int (jI nq), .ref (md 22), .ref (md 23), .ref (md 24), .ref (md 25), .ref (md 26), .int (jI tq), .ref (md 28), .ref (md 29), .ref (md 30)])), ((md 9), .inl (g.1, 100, .inl (aI tn))), ((md 10), .inl (g.1, 100, .inl (aI tl))), ((md 11), .inl (g.2.1, 100, .inr (.inl (aL ta)))), ((md 13), .inl (g.1, 60, .inl (aI qn))), ((md 14), .inl (g.1, 60, .inl (aI qs))), ((md 15), .inl (g.1, 60, .inl (aI qx))), ((md 16), .inl (g.1, 60, .inl (aI qy)))] → va_S A s.heap H locs → lv_has ls 7 [(0, .ref hm), (1, .int (jI net)), (2, .int (jI layer)), (3, .long (jL v9))] → W p l e (jR 2 80) s m args below meth c H locs 0 0 Q (F0 m 53 ls [.int (jI cv9), .ref hm]) := by
    intro cv9 hcv H locs ls hP hD hS hl
    have L123 : ∀ (fuel : Nat) (i : Int) (nn : Int), (cv9 = 0 ∧ ((0 ≤ net ∧ net < nt) ∧ (0 ≤ layer ∧ layer < ly)) ∧ nd < 100 ∧ (1 ≤ v9 ∧ v9 ≤ 1000000)) → (0 ≤ i ∧ i ≤ np) → ((nn = 1 ∧ tdX TD net layer + 16 * plX (pre DD i) net layer = 0) ∨ (nn = 0 ∧ 0 < tdX TD net layer + 16 * plX (pre DD i) net layer)) → (np - i < (fuel : Int)) → ∀ (H : Heap) (locs : List Loc) (ls : Array Slot), va_P D jcl [(hm, .inr (5, [.int (jI cv9), .int (jI ly), .int (jI nt), .ref (md 3), .int (jI ns), .ref (md 5), .ref (md 6), .ref (md 7), .int (jI nd), .ref (md 9), .ref (md 10), .ref (md 11), .int (jI np), .ref (md 13), .ref (md 14), .ref (md 15), .ref (md 16), .ref (md 17), .ref (md 18), .ref (md 19), .ref (md 20), .int (jI nq), .ref (md 22), .ref (md 23), .ref (md 24), .ref (md 25), .ref (md 26), .int (jI tq), .ref (md 28), .ref (md 29), .ref (md 30)])), ((md 9), .inl (g.1, 100, .inl (aI tn))), ((md 10), .inl (g.1, 100, .inl (aI tl))), ((md 11), .inl (g.2.1, 100, .inr (.inl (aL ta)))), ((md 13), .inl (g.1, 60, .inl (aI qn))), ((md 14), .inl (g.1, 60, .inl (aI qs))), ((md 15), .inl (g.1, 60, .inl (aI qx))), ((md 16), .inl (g.1, 60, .inl (aI qy)))] H → va_D A [(hm, .inr (5, [.int (jI cv9), .int (jI ly), .int (jI nt), .ref (md 3), .int (jI ns), .ref (md 5), .ref (md 6), .ref (md 7), .int (jI nd), .ref (md 9), .ref (md 10), .ref (md 11), .int (jI np), .ref (md 13), .ref (md 14), .ref (md 15), .ref (md 16), .ref (md 17), .ref (md 18), .ref (md 19), .ref (md 20), .int (jI nq), .ref (md 22), .ref (md 23), .ref (md 24), .ref (md 25), .ref (md 26), .int (jI tq), .ref (md 28), .ref (md 29), .ref (md 30)])), ((md 9), .inl (g.1, 100, .inl (aI tn))), ((md 10), .inl (g.1, 100, .inl (aI tl))), ((md 11), .inl (g.2.1, 100, .inr (.inl (aL ta)))), ((md 13), .inl (g.1, 60, .inl (aI qn))), ((md 14), .inl (g.1, 60, .inl (aI qs))), ((md 15), .inl (g.1, 60, .inl (aI qx))), ((md 16), .inl (g.1, 60, .inl (aI qy)))] → va_S A s.heap H locs → lv_has ls 7 [(0, .ref hm), (1, .int (jI net)), (2, .int (jI layer)), (3, .long (jL v9)), (5, .int (jI nn)), (6, .int (jI i))] → W p l e (jR 2 80) s m args below meth c H locs 0 0 Q (F0 m 123 ls []) := by
      intro fuel
      induction fuel with
      | zero =>
        intro i nn hok9 hi hn9 hfu
        exfalso; omega
      | succ fuel ihL123 =>
        intro i nn hok9 hi hn9 hfu H locs ls hP hD hS hl
        have hnn : nn = 0 ∨ nn = 1 := by rcases hn9 with q9 | q9 <;> omega
        refine lv_iload hx hb dX5_diode_123 (lv_at hl 5 rfl) ?_
        refine lv_aload_n hx hb dX5_diode_125 rfl (lv_at hl 0 rfl) ?_
        refine va_get (D := D) (ci := 5) (v := .int (jI np)) (C := RX5) (T := TX5) (N := 31) hx hb hts inX5 hown hK hP 0 rfl rfl 12 (by decide) f139 (fun _ h9 => h9) rfl dX5_diode_126 ?_
        refine jv_icmp_ge (tgt := 172) hx hb ⟨by omega, by omega⟩ ⟨by omega, by omega⟩ dX5_diode_129 (by decide) (fun c129 => ?_) (fun c129 => ?_)
        · skip
          refine lv_aload_n hx hb dX5_diode_172 rfl (lv_at hl 0 rfl) ?_
          refine va_get (D := D) (ci := 5) (v := .ref (md 9)) (C := RX5) (T := TX5) (N := 31) hx hb hts inX5 hown hK hP 0 rfl rfl 9 (by decide) f23 (fun _ h9 => h9) rfl dX5_diode_173 ?_
          refine lv_aload_n hx hb dX5_diode_176 rfl (lv_at hl 0 rfl) ?_
          refine va_get (D := D) (ci := 5) (v := .int (jI nd)) (C := RX5) (T := TX5) (N := 31) hx hb hts inX5 hown hK hP 0 rfl rfl 8 (by decide) f136 (fun _ h9 => h9) rfl dX5_diode_177 ?_
          refine lv_iload_n hx hb dX5_diode_180 rfl (lv_at hl 1 rfl) ?_
          refine jv_iast hx hb hK hP hD hS 1 0 rfl rfl (i := nd) (x := net) ⟨by omega, by omega⟩ (Nat.le_of_ble_eq_true rfl) dX5_diode_181 (fun H locs hP hD hS => ?_)
          have hP : va_P D jcl [(hm, .inr (5, [.int (jI cv9), .int (jI ly), .int (jI nt), .ref (md 3), .int (jI ns), .ref (md 5), .ref (md 6), .ref (md 7), .int (jI nd), .ref (md 9), .ref (md 10), .ref (md 11), .int (jI np), .ref (md 13), .ref (md 14), .ref (md 15), .ref (md 16), .ref (md 17), .ref (md 18), .ref (md 19), .ref (md 20), .int (jI nq), .ref (md 22), .ref (md 23), .ref (md 24), .ref (md 25), .ref (md 26), .int (jI tq), .ref (md 28), .ref (md 29), .ref (md 30)])), ((md 9), .inl (g.1, 100, .inl (aI (upI tn nd net)))), ((md 10), .inl (g.1, 100, .inl (aI tl))), ((md 11), .inl (g.2.1, 100, .inr (.inl (aL ta)))), ((md 13), .inl (g.1, 60, .inl (aI qn))), ((md 14), .inl (g.1, 60, .inl (aI qs))), ((md 15), .inl (g.1, 60, .inl (aI qx))), ((md 16), .inl (g.1, 60, .inl (aI qy)))] H := hP
          have hD : va_D A [(hm, .inr (5, [.int (jI cv9), .int (jI ly), .int (jI nt), .ref (md 3), .int (jI ns), .ref (md 5), .ref (md 6), .ref (md 7), .int (jI nd), .ref (md 9), .ref (md 10), .ref (md 11), .int (jI np), .ref (md 13), .ref (md 14), .ref (md 15), .ref (md 16), .ref (md 17), .ref (md 18), .ref (md 19), .ref (md 20), .int (jI nq), .ref (md 22), .ref (md 23), .ref (md 24), .ref (md 25), .ref (md 26), .int (jI tq), .ref (md 28), .ref (md 29), .ref (md 30)])), ((md 9), .inl (g.1, 100, .inl (aI (upI tn nd net)))), ((md 10), .inl (g.1, 100, .inl (aI tl))), ((md 11), .inl (g.2.1, 100, .inr (.inl (aL ta)))), ((md 13), .inl (g.1, 60, .inl (aI qn))), ((md 14), .inl (g.1, 60, .inl (aI qs))), ((md 15), .inl (g.1, 60, .inl (aI qx))), ((md 16), .inl (g.1, 60, .inl (aI qy)))] := hD
          refine lv_aload_n hx hb dX5_diode_182 rfl (lv_at hl 0 rfl) ?_
          refine va_get (D := D) (ci := 5) (v := .ref (md 10)) (C := RX5) (T := TX5) (N := 31) hx hb hts inX5 hown hK hP 0 rfl rfl 10 (by decide) f26 (fun _ h9 => h9) rfl dX5_diode_183 ?_
          refine lv_aload_n hx hb dX5_diode_186 rfl (lv_at hl 0 rfl) ?_
          refine va_get (D := D) (ci := 5) (v := .int (jI nd)) (C := RX5) (T := TX5) (N := 31) hx hb hts inX5 hown hK hP 0 rfl rfl 8 (by decide) f136 (fun _ h9 => h9) rfl dX5_diode_187 ?_
          refine lv_iload_n hx hb dX5_diode_190 rfl (lv_at hl 2 rfl) ?_
          refine jv_iast hx hb hK hP hD hS 2 0 rfl rfl (i := nd) (x := layer) ⟨by omega, by omega⟩ (Nat.le_of_ble_eq_true rfl) dX5_diode_191 (fun H locs hP hD hS => ?_)
          have hP : va_P D jcl [(hm, .inr (5, [.int (jI cv9), .int (jI ly), .int (jI nt), .ref (md 3), .int (jI ns), .ref (md 5), .ref (md 6), .ref (md 7), .int (jI nd), .ref (md 9), .ref (md 10), .ref (md 11), .int (jI np), .ref (md 13), .ref (md 14), .ref (md 15), .ref (md 16), .ref (md 17), .ref (md 18), .ref (md 19), .ref (md 20), .int (jI nq), .ref (md 22), .ref (md 23), .ref (md 24), .ref (md 25), .ref (md 26), .int (jI tq), .ref (md 28), .ref (md 29), .ref (md 30)])), ((md 9), .inl (g.1, 100, .inl (aI (upI tn nd net)))), ((md 10), .inl (g.1, 100, .inl (aI (upI tl nd layer)))), ((md 11), .inl (g.2.1, 100, .inr (.inl (aL ta)))), ((md 13), .inl (g.1, 60, .inl (aI qn))), ((md 14), .inl (g.1, 60, .inl (aI qs))), ((md 15), .inl (g.1, 60, .inl (aI qx))), ((md 16), .inl (g.1, 60, .inl (aI qy)))] H := hP
          have hD : va_D A [(hm, .inr (5, [.int (jI cv9), .int (jI ly), .int (jI nt), .ref (md 3), .int (jI ns), .ref (md 5), .ref (md 6), .ref (md 7), .int (jI nd), .ref (md 9), .ref (md 10), .ref (md 11), .int (jI np), .ref (md 13), .ref (md 14), .ref (md 15), .ref (md 16), .ref (md 17), .ref (md 18), .ref (md 19), .ref (md 20), .int (jI nq), .ref (md 22), .ref (md 23), .ref (md 24), .ref (md 25), .ref (md 26), .int (jI tq), .ref (md 28), .ref (md 29), .ref (md 30)])), ((md 9), .inl (g.1, 100, .inl (aI (upI tn nd net)))), ((md 10), .inl (g.1, 100, .inl (aI (upI tl nd layer)))), ((md 11), .inl (g.2.1, 100, .inr (.inl (aL ta)))), ((md 13), .inl (g.1, 60, .inl (aI qn))), ((md 14), .inl (g.1, 60, .inl (aI qs))), ((md 15), .inl (g.1, 60, .inl (aI qx))), ((md 16), .inl (g.1, 60, .inl (aI qy)))] := hD
          refine lv_aload_n hx hb dX5_diode_192 rfl (lv_at hl 0 rfl) ?_
          refine va_get (D := D) (ci := 5) (v := .ref (md 11)) (C := RX5) (T := TX5) (N := 31) hx hb hts inX5 hown hK hP 0 rfl rfl 11 (by decide) f29 (fun _ h9 => h9) rfl dX5_diode_193 ?_
          refine lv_aload_n hx hb dX5_diode_196 rfl (lv_at hl 0 rfl) ?_
          refine va_get (D := D) (ci := 5) (v := .int (jI nd)) (C := RX5) (T := TX5) (N := 31) hx hb hts inX5 hown hK hP 0 rfl rfl 8 (by decide) f136 (fun _ h9 => h9) rfl dX5_diode_197 ?_
          refine lv_lload_n hx hb dX5_diode_200 rfl (lv_at hl 3 rfl) ?_
          refine jv_last hx hb hK hP hD hS 3 1 rfl rfl (i := nd) (x := v9) ⟨by omega, by omega⟩ (Nat.le_of_ble_eq_true rfl) dX5_diode_201 (fun H locs hP hD hS => ?_)
          have hP : va_P D jcl [(hm, .inr (5, [.int (jI cv9), .int (jI ly), .int (jI nt), .ref (md 3), .int (jI ns), .ref (md 5), .ref (md 6), .ref (md 7), .int (jI nd), .ref (md 9), .ref (md 10), .ref (md 11), .int (jI np), .ref (md 13), .ref (md 14), .ref (md 15), .ref (md 16), .ref (md 17), .ref (md 18), .ref (md 19), .ref (md 20), .int (jI nq), .ref (md 22), .ref (md 23), .ref (md 24), .ref (md 25), .ref (md 26), .int (jI tq), .ref (md 28), .ref (md 29), .ref (md 30)])), ((md 9), .inl (g.1, 100, .inl (aI (upI tn nd net)))), ((md 10), .inl (g.1, 100, .inl (aI (upI tl nd layer)))), ((md 11), .inl (g.2.1, 100, .inr (.inl (aL (upI ta nd v9))))), ((md 13), .inl (g.1, 60, .inl (aI qn))), ((md 14), .inl (g.1, 60, .inl (aI qs))), ((md 15), .inl (g.1, 60, .inl (aI qx))), ((md 16), .inl (g.1, 60, .inl (aI qy)))] H := hP
          have hD : va_D A [(hm, .inr (5, [.int (jI cv9), .int (jI ly), .int (jI nt), .ref (md 3), .int (jI ns), .ref (md 5), .ref (md 6), .ref (md 7), .int (jI nd), .ref (md 9), .ref (md 10), .ref (md 11), .int (jI np), .ref (md 13), .ref (md 14), .ref (md 15), .ref (md 16), .ref (md 17), .ref (md 18), .ref (md 19), .ref (md 20), .int (jI nq), .ref (md 22), .ref (md 23), .ref (md 24), .ref (md 25), .ref (md 26), .int (jI tq), .ref (md 28), .ref (md 29), .ref (md 30)])), ((md 9), .inl (g.1, 100, .inl (aI (upI tn nd net)))), ((md 10), .inl (g.1, 100, .inl (aI (upI tl nd layer)))), ((md 11), .inl (g.2.1, 100, .inr (.inl (aL (upI ta nd v9))))), ((md 13), .inl (g.1, 60, .inl (aI qn))), ((md 14), .inl (g.1, 60, .inl (aI qs))), ((md 15), .inl (g.1, 60, .inl (aI qx))), ((md 16), .inl (g.1, 60, .inl (aI qy)))] := hD
          refine lv_aload_n hx hb dX5_diode_202 rfl (lv_at hl 0 rfl) ?_
          refine lv_dup hx hb dX5_diode_203 rfl ?_
          refine va_get (D := D) (ci := 5) (v := .int (jI nd)) (C := RX5) (T := TX5) (N := 31) hx hb hts inX5 hown hK hP 0 rfl rfl 8 (by decide) f136 (fun _ h9 => h9) rfl dX5_diode_204 ?_
          refine jv_iconst hx hb dX5_diode_207 ?_
          refine jv_iadd hx hb dX5_diode_208 ?_
          refine va_put (D := D) (ci := 5) (v := .int (jI (nd + 1))) (ty := .int) (C := RX5) (T := TX5) (N := 31) hx hb hts inX5 tyX5 tyX5_ok nmX5 hown hK hP hD hS 0 rfl rfl 8 (by decide) f136 (fun _ h9 => h9) rfl (by decide +kernel) rfl rfl (Nat.le_of_ble_eq_true rfl) dX5_diode_209 (fun H locs hP hD hS => ?_)
          have hP : va_P D jcl [(hm, .inr (5, [.int (jI cv9), .int (jI ly), .int (jI nt), .ref (md 3), .int (jI ns), .ref (md 5), .ref (md 6), .ref (md 7), .int (jI (nd + 1)), .ref (md 9), .ref (md 10), .ref (md 11), .int (jI np), .ref (md 13), .ref (md 14), .ref (md 15), .ref (md 16), .ref (md 17), .ref (md 18), .ref (md 19), .ref (md 20), .int (jI nq), .ref (md 22), .ref (md 23), .ref (md 24), .ref (md 25), .ref (md 26), .int (jI tq), .ref (md 28), .ref (md 29), .ref (md 30)])), ((md 9), .inl (g.1, 100, .inl (aI (upI tn nd net)))), ((md 10), .inl (g.1, 100, .inl (aI (upI tl nd layer)))), ((md 11), .inl (g.2.1, 100, .inr (.inl (aL (upI ta nd v9))))), ((md 13), .inl (g.1, 60, .inl (aI qn))), ((md 14), .inl (g.1, 60, .inl (aI qs))), ((md 15), .inl (g.1, 60, .inl (aI qx))), ((md 16), .inl (g.1, 60, .inl (aI qy)))] H := hP
          have hD : va_D A [(hm, .inr (5, [.int (jI cv9), .int (jI ly), .int (jI nt), .ref (md 3), .int (jI ns), .ref (md 5), .ref (md 6), .ref (md 7), .int (jI (nd + 1)), .ref (md 9), .ref (md 10), .ref (md 11), .int (jI np), .ref (md 13), .ref (md 14), .ref (md 15), .ref (md 16), .ref (md 17), .ref (md 18), .ref (md 19), .ref (md 20), .int (jI nq), .ref (md 22), .ref (md 23), .ref (md 24), .ref (md 25), .ref (md 26), .int (jI tq), .ref (md 28), .ref (md 29), .ref (md 30)])), ((md 9), .inl (g.1, 100, .inl (aI (upI tn nd net)))), ((md 10), .inl (g.1, 100, .inl (aI (upI tl nd layer)))), ((md 11), .inl (g.2.1, 100, .inr (.inl (aL (upI ta nd v9))))), ((md 13), .inl (g.1, 60, .inl (aI qn))), ((md 14), .inl (g.1, 60, .inl (aI qs))), ((md 15), .inl (g.1, 60, .inl (aI qx))), ((md 16), .inl (g.1, 60, .inl (aI qy)))] := hD
          refine lv_iload hx hb dX5_diode_212 (lv_at hl 4 rfl) ?_
          exact hret nn (cv9, nd + 1, upI tn nd net, upI tl nd layer, upI ta nd v9) _ _ _ _ (by omega) (by
            rw [pre_all (L := DD) (i := i) (by omega)] at hn9
            exact Or.inr ⟨by show cv9 = 0; omega, by omega, by omega, by omega, rfl, mtI_s hmt (by omega) (by omega) (by omega), by show (nn = 1 ∧ tdX TD net layer + 16 * plX DD net layer = 0) ∨ (nn = 0 ∧ tdX TD net layer + 16 * plX DD net layer ≠ 0); omega⟩) (hP.sub [0, 1, 2, 3, 4, 5, 6, 7] rfl) (hD.sub [0, 1, 2, 3, 4, 5, 6, 7] (by decide) rfl) hS dX5_diode_214
        · skip
          obtain ⟨d, hq, e0, e1, e2, e3, e4, e5, e6, hok⟩ := md_at hmd (k := i) ⟨hi.1, by omega⟩
          unfold okQ at hok
          have hd9 := hd2 d (List.mem_of_getElem? hq)
          refine lv_iload hx hb dX5_diode_132 (lv_at hl 4 rfl) ?_
          refine jv_if_eq (tgt := 163) hx hb ⟨by omega, by omega⟩ dX5_diode_134 (by decide) (fun c134 => ?_) (fun c134 => ?_)
          · skip
            refine jv_iconst hx hb dX5_diode_163 ?_
            refine lv_istore (lv' := [(5, .int (jI 0)), (0, .ref hm), (1, .int (jI net)), (2, .int (jI layer)), (3, .long (jL v9)), (6, .int (jI i))]) hx hb dX5_diode_164 hl (by decide) rfl (fun ls hl => ?_)
            refine jv_iinc (lv2 := [(6, .int (jI (i + 1))), (5, .int (jI 0)), (0, .ref hm), (1, .int (jI net)), (2, .int (jI layer)), (3, .long (jL v9))]) hx hb dX5_diode_166 hl (k := 5) rfl (by decide) rfl (fun ls hl => ?_)
            refine lv_goto (tgt := 123) hx hb dX5_diode_169 (by decide) ?_
            exact ihL123 (i + 1) 0 (by omega) (by omega) (by
              have e9 := lsum_pre (fun d : jD => if d.1.1 = net ∧ d.2 = layer then 1 else 0) hi.1 hq
              have e8 : plX (pre DD (i + 1)) net layer = plX (pre DD i) net layer + (if d.1.1 = net ∧ d.2 = layer then 1 else 0) := e9
              rw [e8]
              have hpz : 0 ≤ tdX TD net layer + 16 * plX (pre DD i) net layer := by rcases hn9 with q9 | q9 <;> omega
              first
              | (rw [if_neg (fun r => by omega)]; omega)
              | (rw [if_pos ⟨by omega, by omega⟩]; omega)
              | (split <;> omega)) (by omega) _ _ _ (hP.sub [0, 1, 2, 3, 4, 5, 6, 7] rfl) (hD.sub [0, 1, 2, 3, 4, 5, 6, 7] (by decide) rfl) hS (lv_sub hl [2, 3, 4, 5, 1, 0] rfl)
          · skip
            refine lv_aload_n hx hb dX5_diode_137 rfl (lv_at hl 0 rfl) ?_
            refine va_get (D := D) (ci := 5) (v := .ref (md 13)) (C := RX5) (T := TX5) (N := 31) hx hb hts inX5 hown hK hP 0 rfl rfl 13 (by decide) f32 (fun _ h9 => h9) rfl dX5_diode_138 ?_
            refine lv_iload hx hb dX5_diode_141 (lv_at hl 5 rfl) ?_
            refine jv_iald hx hb hK hP 4 0 rfl rfl (i := i) ⟨by omega, by omega⟩ (Nat.le_of_ble_eq_true rfl) dX5_diode_143 ?_
            refine lv_iload_n hx hb dX5_diode_144 rfl (lv_at hl 1 rfl) ?_
            refine jv_icmp_ne (tgt := 159) hx hb ⟨by omega, by omega⟩ ⟨by omega, by omega⟩ dX5_diode_145 (by decide) (fun c145 => ?_) (fun c145 => ?_)
            · skip
              refine jv_iconst hx hb dX5_diode_159 ?_
              refine lv_goto (tgt := 164) hx hb dX5_diode_160 (by decide) ?_
              refine lv_istore (lv' := [(5, .int (jI 1)), (0, .ref hm), (1, .int (jI net)), (2, .int (jI layer)), (3, .long (jL v9)), (6, .int (jI i))]) hx hb dX5_diode_164 hl (by decide) rfl (fun ls hl => ?_)
              refine jv_iinc (lv2 := [(6, .int (jI (i + 1))), (5, .int (jI 1)), (0, .ref hm), (1, .int (jI net)), (2, .int (jI layer)), (3, .long (jL v9))]) hx hb dX5_diode_166 hl (k := 5) rfl (by decide) rfl (fun ls hl => ?_)
              refine lv_goto (tgt := 123) hx hb dX5_diode_169 (by decide) ?_
              exact ihL123 (i + 1) 1 (by omega) (by omega) (by
                have e9 := lsum_pre (fun d : jD => if d.1.1 = net ∧ d.2 = layer then 1 else 0) hi.1 hq
                have e8 : plX (pre DD (i + 1)) net layer = plX (pre DD i) net layer + (if d.1.1 = net ∧ d.2 = layer then 1 else 0) := e9
                rw [e8]
                have hpz : 0 ≤ tdX TD net layer + 16 * plX (pre DD i) net layer := by rcases hn9 with q9 | q9 <;> omega
                first
                | (rw [if_neg (fun r => by omega)]; omega)
                | (rw [if_pos ⟨by omega, by omega⟩]; omega)
                | (split <;> omega)) (by omega) _ _ _ (hP.sub [0, 1, 2, 3, 4, 5, 6, 7] rfl) (hD.sub [0, 1, 2, 3, 4, 5, 6, 7] (by decide) rfl) hS (lv_sub hl [2, 3, 4, 5, 1, 0] rfl)
            · skip
              refine lv_aload_n hx hb dX5_diode_148 rfl (lv_at hl 0 rfl) ?_
              refine va_get (D := D) (ci := 5) (v := .ref (md 14)) (C := RX5) (T := TX5) (N := 31) hx hb hts inX5 hown hK hP 0 rfl rfl 14 (by decide) f35 (fun _ h9 => h9) rfl dX5_diode_149 ?_
              refine lv_iload hx hb dX5_diode_152 (lv_at hl 5 rfl) ?_
              refine jv_iald hx hb hK hP 5 0 rfl rfl (i := i) ⟨by omega, by omega⟩ (Nat.le_of_ble_eq_true rfl) dX5_diode_154 ?_
              refine lv_iload_n hx hb dX5_diode_155 rfl (lv_at hl 2 rfl) ?_
              refine jv_icmp_eq (tgt := 163) hx hb ⟨by omega, by omega⟩ ⟨by omega, by omega⟩ dX5_diode_156 (by decide) (fun c156 => ?_) (fun c156 => ?_)
              · skip
                refine jv_iconst hx hb dX5_diode_163 ?_
                refine lv_istore (lv' := [(5, .int (jI 0)), (0, .ref hm), (1, .int (jI net)), (2, .int (jI layer)), (3, .long (jL v9)), (6, .int (jI i))]) hx hb dX5_diode_164 hl (by decide) rfl (fun ls hl => ?_)
                refine jv_iinc (lv2 := [(6, .int (jI (i + 1))), (5, .int (jI 0)), (0, .ref hm), (1, .int (jI net)), (2, .int (jI layer)), (3, .long (jL v9))]) hx hb dX5_diode_166 hl (k := 5) rfl (by decide) rfl (fun ls hl => ?_)
                refine lv_goto (tgt := 123) hx hb dX5_diode_169 (by decide) ?_
                exact ihL123 (i + 1) 0 (by omega) (by omega) (by
                  have e9 := lsum_pre (fun d : jD => if d.1.1 = net ∧ d.2 = layer then 1 else 0) hi.1 hq
                  have e8 : plX (pre DD (i + 1)) net layer = plX (pre DD i) net layer + (if d.1.1 = net ∧ d.2 = layer then 1 else 0) := e9
                  rw [e8]
                  have hpz : 0 ≤ tdX TD net layer + 16 * plX (pre DD i) net layer := by rcases hn9 with q9 | q9 <;> omega
                  first
                  | (rw [if_neg (fun r => by omega)]; omega)
                  | (rw [if_pos ⟨by omega, by omega⟩]; omega)
                  | (split <;> omega)) (by omega) _ _ _ (hP.sub [0, 1, 2, 3, 4, 5, 6, 7] rfl) (hD.sub [0, 1, 2, 3, 4, 5, 6, 7] (by decide) rfl) hS (lv_sub hl [2, 3, 4, 5, 1, 0] rfl)
              · skip
                refine jv_iconst hx hb dX5_diode_159 ?_
                refine lv_goto (tgt := 164) hx hb dX5_diode_160 (by decide) ?_
                refine lv_istore (lv' := [(5, .int (jI 1)), (0, .ref hm), (1, .int (jI net)), (2, .int (jI layer)), (3, .long (jL v9)), (6, .int (jI i))]) hx hb dX5_diode_164 hl (by decide) rfl (fun ls hl => ?_)
                refine jv_iinc (lv2 := [(6, .int (jI (i + 1))), (5, .int (jI 1)), (0, .ref hm), (1, .int (jI net)), (2, .int (jI layer)), (3, .long (jL v9))]) hx hb dX5_diode_166 hl (k := 5) rfl (by decide) rfl (fun ls hl => ?_)
                refine lv_goto (tgt := 123) hx hb dX5_diode_169 (by decide) ?_
                exact ihL123 (i + 1) 1 (by omega) (by omega) (by
                  have e9 := lsum_pre (fun d : jD => if d.1.1 = net ∧ d.2 = layer then 1 else 0) hi.1 hq
                  have e8 : plX (pre DD (i + 1)) net layer = plX (pre DD i) net layer + (if d.1.1 = net ∧ d.2 = layer then 1 else 0) := e9
                  rw [e8]
                  have hpz : 0 ≤ tdX TD net layer + 16 * plX (pre DD i) net layer := by rcases hn9 with q9 | q9 <;> omega
                  first
                  | (rw [if_neg (fun r => by omega)]; omega)
                  | (rw [if_pos ⟨by omega, by omega⟩]; omega)
                  | (split <;> omega)) (by omega) _ _ _ (hP.sub [0, 1, 2, 3, 4, 5, 6, 7] rfl) (hD.sub [0, 1, 2, 3, 4, 5, 6, 7] (by decide) rfl) hS (lv_sub hl [2, 3, 4, 5, 1, 0] rfl)
    have L71 : ∀ (fuel : Nat) (i : Int) (nn : Int), (cv9 = 0 ∧ ((0 ≤ net ∧ net < nt) ∧ (0 ≤ layer ∧ layer < ly)) ∧ nd < 100 ∧ (1 ≤ v9 ∧ v9 ≤ 1000000)) → (0 ≤ i ∧ i ≤ nd) → ((nn = 1 ∧ tdX (pre TD i) net layer = 0) ∨ (nn = 0 ∧ 0 < tdX (pre TD i) net layer)) → (nd - i < (fuel : Int)) → ∀ (H : Heap) (locs : List Loc) (ls : Array Slot), va_P D jcl [(hm, .inr (5, [.int (jI cv9), .int (jI ly), .int (jI nt), .ref (md 3), .int (jI ns), .ref (md 5), .ref (md 6), .ref (md 7), .int (jI nd), .ref (md 9), .ref (md 10), .ref (md 11), .int (jI np), .ref (md 13), .ref (md 14), .ref (md 15), .ref (md 16), .ref (md 17), .ref (md 18), .ref (md 19), .ref (md 20), .int (jI nq), .ref (md 22), .ref (md 23), .ref (md 24), .ref (md 25), .ref (md 26), .int (jI tq), .ref (md 28), .ref (md 29), .ref (md 30)])), ((md 9), .inl (g.1, 100, .inl (aI tn))), ((md 10), .inl (g.1, 100, .inl (aI tl))), ((md 11), .inl (g.2.1, 100, .inr (.inl (aL ta)))), ((md 13), .inl (g.1, 60, .inl (aI qn))), ((md 14), .inl (g.1, 60, .inl (aI qs))), ((md 15), .inl (g.1, 60, .inl (aI qx))), ((md 16), .inl (g.1, 60, .inl (aI qy)))] H → va_D A [(hm, .inr (5, [.int (jI cv9), .int (jI ly), .int (jI nt), .ref (md 3), .int (jI ns), .ref (md 5), .ref (md 6), .ref (md 7), .int (jI nd), .ref (md 9), .ref (md 10), .ref (md 11), .int (jI np), .ref (md 13), .ref (md 14), .ref (md 15), .ref (md 16), .ref (md 17), .ref (md 18), .ref (md 19), .ref (md 20), .int (jI nq), .ref (md 22), .ref (md 23), .ref (md 24), .ref (md 25), .ref (md 26), .int (jI tq), .ref (md 28), .ref (md 29), .ref (md 30)])), ((md 9), .inl (g.1, 100, .inl (aI tn))), ((md 10), .inl (g.1, 100, .inl (aI tl))), ((md 11), .inl (g.2.1, 100, .inr (.inl (aL ta)))), ((md 13), .inl (g.1, 60, .inl (aI qn))), ((md 14), .inl (g.1, 60, .inl (aI qs))), ((md 15), .inl (g.1, 60, .inl (aI qx))), ((md 16), .inl (g.1, 60, .inl (aI qy)))] → va_S A s.heap H locs → lv_has ls 7 [(0, .ref hm), (1, .int (jI net)), (2, .int (jI layer)), (3, .long (jL v9)), (5, .int (jI nn)), (6, .int (jI i))] → W p l e (jR 2 80) s m args below meth c H locs 0 0 Q (F0 m 71 ls []) := by
      intro fuel
      induction fuel with
      | zero =>
        intro i nn hok9 hi hn9 hfu
        exfalso; omega
      | succ fuel ihL71 =>
        intro i nn hok9 hi hn9 hfu H locs ls hP hD hS hl
        have hnn : nn = 0 ∨ nn = 1 := by rcases hn9 with q9 | q9 <;> omega
        refine lv_iload hx hb dX5_diode_71 (lv_at hl 5 rfl) ?_
        refine lv_aload_n hx hb dX5_diode_73 rfl (lv_at hl 0 rfl) ?_
        refine va_get (D := D) (ci := 5) (v := .int (jI nd)) (C := RX5) (T := TX5) (N := 31) hx hb hts inX5 hown hK hP 0 rfl rfl 8 (by decide) f136 (fun _ h9 => h9) rfl dX5_diode_74 ?_
        refine jv_icmp_ge (tgt := 120) hx hb ⟨by omega, by omega⟩ ⟨by omega, by omega⟩ dX5_diode_77 (by decide) (fun c77 => ?_) (fun c77 => ?_)
        · skip
          refine jv_iconst hx hb dX5_diode_120 ?_
          refine lv_istore (lv' := [(6, .int (jI 0)), (0, .ref hm), (1, .int (jI net)), (2, .int (jI layer)), (3, .long (jL v9)), (5, .int (jI nn))]) hx hb dX5_diode_121 hl (by decide) rfl (fun ls hl => ?_)
          exact L123 ((np - 0).toNat + 1) 0 nn (by omega) (by omega) (by
            rw [pre_all (L := TD) (i := i) (by omega)] at hn9
            rw [pre_0]
            show (_ ∧ tdX TD net layer + 16 * 0 = 0) ∨ (_ ∧ 0 < tdX TD net layer + 16 * 0)
            omega) (by omega) _ _ _ (hP.sub [0, 1, 2, 3, 4, 5, 6, 7] rfl) (hD.sub [0, 1, 2, 3, 4, 5, 6, 7] (by decide) rfl) hS (lv_sub hl [1, 2, 3, 4, 5, 0] rfl)
        · skip
          obtain ⟨d, hq, e0, e1, e2, e3, e4, e5, e6, e7, e8⟩ := mt_at hmt (k := i) ⟨hi.1, by omega⟩
          refine lv_iload hx hb dX5_diode_80 (lv_at hl 4 rfl) ?_
          refine jv_if_eq (tgt := 111) hx hb ⟨by omega, by omega⟩ dX5_diode_82 (by decide) (fun c82 => ?_) (fun c82 => ?_)
          · skip
            refine jv_iconst hx hb dX5_diode_111 ?_
            refine lv_istore (lv' := [(5, .int (jI 0)), (0, .ref hm), (1, .int (jI net)), (2, .int (jI layer)), (3, .long (jL v9)), (6, .int (jI i))]) hx hb dX5_diode_112 hl (by decide) rfl (fun ls hl => ?_)
            refine jv_iinc (lv2 := [(6, .int (jI (i + 1))), (5, .int (jI 0)), (0, .ref hm), (1, .int (jI net)), (2, .int (jI layer)), (3, .long (jL v9))]) hx hb dX5_diode_114 hl (k := 5) rfl (by decide) rfl (fun ls hl => ?_)
            refine lv_goto (tgt := 71) hx hb dX5_diode_117 (by decide) ?_
            exact ihL71 (i + 1) 0 (by omega) (by omega) (by
              have e9 := lsum_pre (fun d : Int × Int × Int => if d.1 = net ∧ d.2.1 = layer then d.2.2 else 0) hi.1 hq
              have e8 : tdX (pre TD (i + 1)) net layer = tdX (pre TD i) net layer + (if d.1 = net ∧ d.2.1 = layer then d.2.2 else 0) := e9
              rw [e8]
              have hpz : 0 ≤ tdX (pre TD i) net layer := by rcases hn9 with q9 | q9 <;> omega
              first
              | (rw [if_neg (fun r => by omega)]; omega)
              | (rw [if_pos ⟨by omega, by omega⟩]; omega)
              | (split <;> omega)) (by omega) _ _ _ (hP.sub [0, 1, 2, 3, 4, 5, 6, 7] rfl) (hD.sub [0, 1, 2, 3, 4, 5, 6, 7] (by decide) rfl) hS (lv_sub hl [2, 3, 4, 5, 1, 0] rfl)
          · skip
            refine lv_aload_n hx hb dX5_diode_85 rfl (lv_at hl 0 rfl) ?_
            refine va_get (D := D) (ci := 5) (v := .ref (md 9)) (C := RX5) (T := TX5) (N := 31) hx hb hts inX5 hown hK hP 0 rfl rfl 9 (by decide) f23 (fun _ h9 => h9) rfl dX5_diode_86 ?_
            refine lv_iload hx hb dX5_diode_89 (lv_at hl 5 rfl) ?_
            refine jv_iald hx hb hK hP 1 0 rfl rfl (i := i) ⟨by omega, by omega⟩ (Nat.le_of_ble_eq_true rfl) dX5_diode_91 ?_
            refine lv_iload_n hx hb dX5_diode_92 rfl (lv_at hl 1 rfl) ?_
            refine jv_icmp_ne (tgt := 107) hx hb ⟨by omega, by omega⟩ ⟨by omega, by omega⟩ dX5_diode_93 (by decide) (fun c93 => ?_) (fun c93 => ?_)
            · skip
              refine jv_iconst hx hb dX5_diode_107 ?_
              refine lv_goto (tgt := 112) hx hb dX5_diode_108 (by decide) ?_
              refine lv_istore (lv' := [(5, .int (jI 1)), (0, .ref hm), (1, .int (jI net)), (2, .int (jI layer)), (3, .long (jL v9)), (6, .int (jI i))]) hx hb dX5_diode_112 hl (by decide) rfl (fun ls hl => ?_)
              refine jv_iinc (lv2 := [(6, .int (jI (i + 1))), (5, .int (jI 1)), (0, .ref hm), (1, .int (jI net)), (2, .int (jI layer)), (3, .long (jL v9))]) hx hb dX5_diode_114 hl (k := 5) rfl (by decide) rfl (fun ls hl => ?_)
              refine lv_goto (tgt := 71) hx hb dX5_diode_117 (by decide) ?_
              exact ihL71 (i + 1) 1 (by omega) (by omega) (by
                have e9 := lsum_pre (fun d : Int × Int × Int => if d.1 = net ∧ d.2.1 = layer then d.2.2 else 0) hi.1 hq
                have e8 : tdX (pre TD (i + 1)) net layer = tdX (pre TD i) net layer + (if d.1 = net ∧ d.2.1 = layer then d.2.2 else 0) := e9
                rw [e8]
                have hpz : 0 ≤ tdX (pre TD i) net layer := by rcases hn9 with q9 | q9 <;> omega
                first
                | (rw [if_neg (fun r => by omega)]; omega)
                | (rw [if_pos ⟨by omega, by omega⟩]; omega)
                | (split <;> omega)) (by omega) _ _ _ (hP.sub [0, 1, 2, 3, 4, 5, 6, 7] rfl) (hD.sub [0, 1, 2, 3, 4, 5, 6, 7] (by decide) rfl) hS (lv_sub hl [2, 3, 4, 5, 1, 0] rfl)
            · skip
              refine lv_aload_n hx hb dX5_diode_96 rfl (lv_at hl 0 rfl) ?_
              refine va_get (D := D) (ci := 5) (v := .ref (md 10)) (C := RX5) (T := TX5) (N := 31) hx hb hts inX5 hown hK hP 0 rfl rfl 10 (by decide) f26 (fun _ h9 => h9) rfl dX5_diode_97 ?_
              refine lv_iload hx hb dX5_diode_100 (lv_at hl 5 rfl) ?_
              refine jv_iald hx hb hK hP 2 0 rfl rfl (i := i) ⟨by omega, by omega⟩ (Nat.le_of_ble_eq_true rfl) dX5_diode_102 ?_
              refine lv_iload_n hx hb dX5_diode_103 rfl (lv_at hl 2 rfl) ?_
              refine jv_icmp_eq (tgt := 111) hx hb ⟨by omega, by omega⟩ ⟨by omega, by omega⟩ dX5_diode_104 (by decide) (fun c104 => ?_) (fun c104 => ?_)
              · skip
                refine jv_iconst hx hb dX5_diode_111 ?_
                refine lv_istore (lv' := [(5, .int (jI 0)), (0, .ref hm), (1, .int (jI net)), (2, .int (jI layer)), (3, .long (jL v9)), (6, .int (jI i))]) hx hb dX5_diode_112 hl (by decide) rfl (fun ls hl => ?_)
                refine jv_iinc (lv2 := [(6, .int (jI (i + 1))), (5, .int (jI 0)), (0, .ref hm), (1, .int (jI net)), (2, .int (jI layer)), (3, .long (jL v9))]) hx hb dX5_diode_114 hl (k := 5) rfl (by decide) rfl (fun ls hl => ?_)
                refine lv_goto (tgt := 71) hx hb dX5_diode_117 (by decide) ?_
                exact ihL71 (i + 1) 0 (by omega) (by omega) (by
                  have e9 := lsum_pre (fun d : Int × Int × Int => if d.1 = net ∧ d.2.1 = layer then d.2.2 else 0) hi.1 hq
                  have e8 : tdX (pre TD (i + 1)) net layer = tdX (pre TD i) net layer + (if d.1 = net ∧ d.2.1 = layer then d.2.2 else 0) := e9
                  rw [e8]
                  have hpz : 0 ≤ tdX (pre TD i) net layer := by rcases hn9 with q9 | q9 <;> omega
                  first
                  | (rw [if_neg (fun r => by omega)]; omega)
                  | (rw [if_pos ⟨by omega, by omega⟩]; omega)
                  | (split <;> omega)) (by omega) _ _ _ (hP.sub [0, 1, 2, 3, 4, 5, 6, 7] rfl) (hD.sub [0, 1, 2, 3, 4, 5, 6, 7] (by decide) rfl) hS (lv_sub hl [2, 3, 4, 5, 1, 0] rfl)
              · skip
                refine jv_iconst hx hb dX5_diode_107 ?_
                refine lv_goto (tgt := 112) hx hb dX5_diode_108 (by decide) ?_
                refine lv_istore (lv' := [(5, .int (jI 1)), (0, .ref hm), (1, .int (jI net)), (2, .int (jI layer)), (3, .long (jL v9)), (6, .int (jI i))]) hx hb dX5_diode_112 hl (by decide) rfl (fun ls hl => ?_)
                refine jv_iinc (lv2 := [(6, .int (jI (i + 1))), (5, .int (jI 1)), (0, .ref hm), (1, .int (jI net)), (2, .int (jI layer)), (3, .long (jL v9))]) hx hb dX5_diode_114 hl (k := 5) rfl (by decide) rfl (fun ls hl => ?_)
                refine lv_goto (tgt := 71) hx hb dX5_diode_117 (by decide) ?_
                exact ihL71 (i + 1) 1 (by omega) (by omega) (by
                  have e9 := lsum_pre (fun d : Int × Int × Int => if d.1 = net ∧ d.2.1 = layer then d.2.2 else 0) hi.1 hq
                  have e8 : tdX (pre TD (i + 1)) net layer = tdX (pre TD i) net layer + (if d.1 = net ∧ d.2.1 = layer then d.2.2 else 0) := e9
                  rw [e8]
                  have hpz : 0 ≤ tdX (pre TD i) net layer := by rcases hn9 with q9 | q9 <;> omega
                  first
                  | (rw [if_neg (fun r => by omega)]; omega)
                  | (rw [if_pos ⟨by omega, by omega⟩]; omega)
                  | (split <;> omega)) (by omega) _ _ _ (hP.sub [0, 1, 2, 3, 4, 5, 6, 7] rfl) (hD.sub [0, 1, 2, 3, 4, 5, 6, 7] (by decide) rfl) hS (lv_sub hl [2, 3, 4, 5, 1, 0] rfl)
    refine va_put (D := D) (ci := 5) (v := .int (jI cv9)) (ty := .int) (C := RX5) (T := TX5) (N := 31) hx hb hts inX5 tyX5 tyX5_ok nmX5 hown hK hP hD hS 0 rfl rfl 0 (by decide) f84 (fun _ h9 => h9) rfl (by decide +kernel) rfl rfl (Nat.le_of_ble_eq_true rfl) dX5_diode_53 (fun H locs hP hD hS => ?_)
    have hP : va_P D jcl [(hm, .inr (5, [.int (jI cv9), .int (jI ly), .int (jI nt), .ref (md 3), .int (jI ns), .ref (md 5), .ref (md 6), .ref (md 7), .int (jI nd), .ref (md 9), .ref (md 10), .ref (md 11), .int (jI np), .ref (md 13), .ref (md 14), .ref (md 15), .ref (md 16), .ref (md 17), .ref (md 18), .ref (md 19), .ref (md 20), .int (jI nq), .ref (md 22), .ref (md 23), .ref (md 24), .ref (md 25), .ref (md 26), .int (jI tq), .ref (md 28), .ref (md 29), .ref (md 30)])), ((md 9), .inl (g.1, 100, .inl (aI tn))), ((md 10), .inl (g.1, 100, .inl (aI tl))), ((md 11), .inl (g.2.1, 100, .inr (.inl (aL ta)))), ((md 13), .inl (g.1, 60, .inl (aI qn))), ((md 14), .inl (g.1, 60, .inl (aI qs))), ((md 15), .inl (g.1, 60, .inl (aI qx))), ((md 16), .inl (g.1, 60, .inl (aI qy)))] H := hP
    have hD : va_D A [(hm, .inr (5, [.int (jI cv9), .int (jI ly), .int (jI nt), .ref (md 3), .int (jI ns), .ref (md 5), .ref (md 6), .ref (md 7), .int (jI nd), .ref (md 9), .ref (md 10), .ref (md 11), .int (jI np), .ref (md 13), .ref (md 14), .ref (md 15), .ref (md 16), .ref (md 17), .ref (md 18), .ref (md 19), .ref (md 20), .int (jI nq), .ref (md 22), .ref (md 23), .ref (md 24), .ref (md 25), .ref (md 26), .int (jI tq), .ref (md 28), .ref (md 29), .ref (md 30)])), ((md 9), .inl (g.1, 100, .inl (aI tn))), ((md 10), .inl (g.1, 100, .inl (aI tl))), ((md 11), .inl (g.2.1, 100, .inr (.inl (aL ta)))), ((md 13), .inl (g.1, 60, .inl (aI qn))), ((md 14), .inl (g.1, 60, .inl (aI qs))), ((md 15), .inl (g.1, 60, .inl (aI qx))), ((md 16), .inl (g.1, 60, .inl (aI qy)))] := hD
    refine lv_aload_n hx hb dX5_diode_56 rfl (lv_at hl 0 rfl) ?_
    refine va_get (D := D) (ci := 5) (v := .int (jI cv9)) (C := RX5) (T := TX5) (N := 31) hx hb hts inX5 hown hK hP 0 rfl rfl 0 (by decide) f84 (fun _ h9 => h9) rfl dX5_diode_57 ?_
    refine jv_if_le (tgt := 65) hx hb ⟨by omega, by omega⟩ dX5_diode_60 (by decide) (fun c60 => ?_) (fun c60 => ?_)
    · skip
      refine jv_iconst hx hb dX5_diode_65 ?_
      refine lv_istore (lv' := [(5, .int (jI 1)), (0, .ref hm), (1, .int (jI net)), (2, .int (jI layer)), (3, .long (jL v9))]) hx hb dX5_diode_66 hl (by decide) rfl (fun ls hl => ?_)
      refine jv_iconst hx hb dX5_diode_68 ?_
      refine lv_istore (lv' := [(6, .int (jI 0)), (5, .int (jI 1)), (0, .ref hm), (1, .int (jI net)), (2, .int (jI layer)), (3, .long (jL v9))]) hx hb dX5_diode_69 hl (by decide) rfl (fun ls hl => ?_)
      exact L71 ((nd - 0).toNat + 1) 0 1 (by omega) (by omega) (Or.inl ⟨rfl, by rw [pre_0]; rfl⟩) (by omega) _ _ _ (hP.sub [0, 1, 2, 3, 4, 5, 6, 7] rfl) (hD.sub [0, 1, 2, 3, 4, 5, 6, 7] (by decide) rfl) hS (lv_sub hl [2, 3, 4, 5, 1, 0] rfl)
    · skip
      refine jv_iconst hx hb dX5_diode_63 ?_
      exact hret 0 (cv9, nd, tn, tl, ta) _ _ _ _ (by omega) (Or.inl ⟨by show (cv9 = 1 ∧ ¬ ((0 ≤ net ∧ net < nt) ∧ (0 ≤ layer ∧ layer < ly))) ∨ (cv9 = 2 ∧ ((0 ≤ net ∧ net < nt) ∧ (0 ≤ layer ∧ layer < ly)) ∧ nd = 100) ∨ (cv9 = 3 ∧ ((0 ≤ net ∧ net < nt) ∧ (0 ≤ layer ∧ layer < ly)) ∧ nd < 100 ∧ ¬ (1 ≤ v9 ∧ v9 ≤ 1000000)); omega, rfl, rfl, rfl, rfl⟩) (hP.sub [0, 1, 2, 3, 4, 5, 6, 7] rfl) (hD.sub [0, 1, 2, 3, 4, 5, 6, 7] (by decide) rfl) hS dX5_diode_64
  refine lv_aload_n hx hb dX5_diode_0 rfl (lv_at hl 0 rfl) ?_
  refine lv_aload_n hx hb dX5_diode_1 rfl (lv_at hl 0 rfl) ?_
  refine lv_iload_n hx hb dX5_diode_2 rfl (lv_at hl 1 rfl) ?_
  refine jc_Vi (As := [.int (jI net)]) (rest := [.ref hm]) (wq := [((md 9), .inl (g.1, 100, .inl (aI tn))), ((md 10), .inl (g.1, 100, .inl (aI tl))), ((md 11), .inl (g.2.1, 100, .inr (.inl (aL ta)))), ((md 13), .inl (g.1, 60, .inl (aI qn))), ((md 14), .inl (g.1, 60, .inl (aI qs))), ((md 15), .inl (g.1, 60, .inl (aI qx))), ((md 16), .inl (g.1, 60, .inl (aI qy)))]) ⟨hx, hb, hml, hown, hts⟩ (tX5_isNet l D g hm md co ly nt ns nd np nq tq net (⟨hri.1, by omega, by omega⟩)) (cwV 1 hts gX5_diode_X5_isNet rfl rfl rfl (by decide +kernel) ⟨Nat.le_of_ble_eq_true rfl, Nat.le_of_ble_eq_true rfl⟩) hK hP hD hS hA [0] [1, 2, 3, 4, 5, 6, 7] rfl rfl (by decide) (by decide) (by decide) (va_recv hK hP (ci := 5) (q0 := 0) rfl rfl) rfl rfl hl.1 (Nat.le_of_ble_eq_true rfl) dX5_diode_3 ⟨Nat.le_of_ble_eq_true rfl, Nat.le_of_ble_eq_true rfl⟩ (fun zn9 u H locs hu hP hD hS => ?_)
  have hu : (zn9 = 1 ∧ (0 ≤ net ∧ net < nt)) ∨ (zn9 = 0 ∧ ¬ (0 ≤ net ∧ net < nt)) := hu
  have hzn := hu
  have hP : va_P D jcl [((md 9), .inl (g.1, 100, .inl (aI tn))), ((md 10), .inl (g.1, 100, .inl (aI tl))), ((md 11), .inl (g.2.1, 100, .inr (.inl (aL ta)))), ((md 13), .inl (g.1, 60, .inl (aI qn))), ((md 14), .inl (g.1, 60, .inl (aI qs))), ((md 15), .inl (g.1, 60, .inl (aI qx))), ((md 16), .inl (g.1, 60, .inl (aI qy))), (hm, .inr (5, [.int (jI co), .int (jI ly), .int (jI nt), .ref (md 3), .int (jI ns), .ref (md 5), .ref (md 6), .ref (md 7), .int (jI nd), .ref (md 9), .ref (md 10), .ref (md 11), .int (jI np), .ref (md 13), .ref (md 14), .ref (md 15), .ref (md 16), .ref (md 17), .ref (md 18), .ref (md 19), .ref (md 20), .int (jI nq), .ref (md 22), .ref (md 23), .ref (md 24), .ref (md 25), .ref (md 26), .int (jI tq), .ref (md 28), .ref (md 29), .ref (md 30)]))] H := hP
  have hD : va_D A [((md 9), .inl (g.1, 100, .inl (aI tn))), ((md 10), .inl (g.1, 100, .inl (aI tl))), ((md 11), .inl (g.2.1, 100, .inr (.inl (aL ta)))), ((md 13), .inl (g.1, 60, .inl (aI qn))), ((md 14), .inl (g.1, 60, .inl (aI qs))), ((md 15), .inl (g.1, 60, .inl (aI qx))), ((md 16), .inl (g.1, 60, .inl (aI qy))), (hm, .inr (5, [.int (jI co), .int (jI ly), .int (jI nt), .ref (md 3), .int (jI ns), .ref (md 5), .ref (md 6), .ref (md 7), .int (jI nd), .ref (md 9), .ref (md 10), .ref (md 11), .int (jI np), .ref (md 13), .ref (md 14), .ref (md 15), .ref (md 16), .ref (md 17), .ref (md 18), .ref (md 19), .ref (md 20), .int (jI nq), .ref (md 22), .ref (md 23), .ref (md 24), .ref (md 25), .ref (md 26), .int (jI tq), .ref (md 28), .ref (md 29), .ref (md 30)]))] := hD
  refine jv_if_eq (tgt := 17) hx hb ⟨by omega, by omega⟩ dX5_diode_6 (by decide) (fun c6 => ?_) (fun c6 => ?_)
  · skip
    refine jv_iconst hx hb dX5_diode_17 ?_
    refine lv_goto (tgt := 53) hx hb dX5_diode_18 (by decide) ?_
    exact JC 1 (by omega) _ _ _ (hP.sub [7, 0, 1, 2, 3, 4, 5, 6] rfl) (hD.sub [7, 0, 1, 2, 3, 4, 5, 6] (by decide) rfl) hS (lv_sub hl [0, 1, 2, 3] rfl)
  · skip
    refine lv_aload_n hx hb dX5_diode_9 rfl (lv_at hl 0 rfl) ?_
    refine lv_iload_n hx hb dX5_diode_10 rfl (lv_at hl 2 rfl) ?_
    refine jc_Vi (As := [.int (jI layer)]) (rest := [.ref hm]) (wq := [((md 9), .inl (g.1, 100, .inl (aI tn))), ((md 10), .inl (g.1, 100, .inl (aI tl))), ((md 11), .inl (g.2.1, 100, .inr (.inl (aL ta)))), ((md 13), .inl (g.1, 60, .inl (aI qn))), ((md 14), .inl (g.1, 60, .inl (aI qs))), ((md 15), .inl (g.1, 60, .inl (aI qx))), ((md 16), .inl (g.1, 60, .inl (aI qy)))]) ⟨hx, hb, hml, hown, hts⟩ (tX5_isLayer l D g hm md co ly nt ns nd np nq tq layer (⟨⟨by omega, by omega⟩, by omega, by omega⟩)) (cwV 1 hts gX5_diode_X5_isLayer rfl rfl rfl (by decide +kernel) ⟨Nat.le_of_ble_eq_true rfl, Nat.le_of_ble_eq_true rfl⟩) hK hP hD hS hA [7] [0, 1, 2, 3, 4, 5, 6] rfl rfl (by decide) (by decide) (by decide) (va_recv hK hP (ci := 5) (q0 := 7) rfl rfl) rfl rfl hl.1 (Nat.le_of_ble_eq_true rfl) dX5_diode_11 ⟨Nat.le_of_ble_eq_true rfl, Nat.le_of_ble_eq_true rfl⟩ (fun zl9 u H locs hu hP hD hS => ?_)
    have hu : (zl9 = 1 ∧ (0 ≤ layer ∧ layer < ly)) ∨ (zl9 = 0 ∧ ¬ (0 ≤ layer ∧ layer < ly)) := hu
    have hzl := hu
    have hP : va_P D jcl [((md 9), .inl (g.1, 100, .inl (aI tn))), ((md 10), .inl (g.1, 100, .inl (aI tl))), ((md 11), .inl (g.2.1, 100, .inr (.inl (aL ta)))), ((md 13), .inl (g.1, 60, .inl (aI qn))), ((md 14), .inl (g.1, 60, .inl (aI qs))), ((md 15), .inl (g.1, 60, .inl (aI qx))), ((md 16), .inl (g.1, 60, .inl (aI qy))), (hm, .inr (5, [.int (jI co), .int (jI ly), .int (jI nt), .ref (md 3), .int (jI ns), .ref (md 5), .ref (md 6), .ref (md 7), .int (jI nd), .ref (md 9), .ref (md 10), .ref (md 11), .int (jI np), .ref (md 13), .ref (md 14), .ref (md 15), .ref (md 16), .ref (md 17), .ref (md 18), .ref (md 19), .ref (md 20), .int (jI nq), .ref (md 22), .ref (md 23), .ref (md 24), .ref (md 25), .ref (md 26), .int (jI tq), .ref (md 28), .ref (md 29), .ref (md 30)]))] H := hP
    have hD : va_D A [((md 9), .inl (g.1, 100, .inl (aI tn))), ((md 10), .inl (g.1, 100, .inl (aI tl))), ((md 11), .inl (g.2.1, 100, .inr (.inl (aL ta)))), ((md 13), .inl (g.1, 60, .inl (aI qn))), ((md 14), .inl (g.1, 60, .inl (aI qs))), ((md 15), .inl (g.1, 60, .inl (aI qx))), ((md 16), .inl (g.1, 60, .inl (aI qy))), (hm, .inr (5, [.int (jI co), .int (jI ly), .int (jI nt), .ref (md 3), .int (jI ns), .ref (md 5), .ref (md 6), .ref (md 7), .int (jI nd), .ref (md 9), .ref (md 10), .ref (md 11), .int (jI np), .ref (md 13), .ref (md 14), .ref (md 15), .ref (md 16), .ref (md 17), .ref (md 18), .ref (md 19), .ref (md 20), .int (jI nq), .ref (md 22), .ref (md 23), .ref (md 24), .ref (md 25), .ref (md 26), .int (jI tq), .ref (md 28), .ref (md 29), .ref (md 30)]))] := hD
    refine jv_if_ne (tgt := 21) hx hb ⟨by omega, by omega⟩ dX5_diode_14 (by decide) (fun c14 => ?_) (fun c14 => ?_)
    · skip
      refine lv_aload_n hx hb dX5_diode_21 rfl (lv_at hl 0 rfl) ?_
      refine va_get (D := D) (ci := 5) (v := .int (jI nd)) (C := RX5) (T := TX5) (N := 31) hx hb hts inX5 hown hK hP 7 rfl rfl 8 (by decide) f136 (fun _ h9 => h9) rfl dX5_diode_22 ?_
      refine jv_bipush hx hb (by decide) dX5_diode_25 ?_
      refine jv_icmp_ne (tgt := 34) hx hb ⟨by omega, by omega⟩ ⟨by decide, by decide⟩ dX5_diode_27 (by decide) (fun c27 => ?_) (fun c27 => ?_)
      · skip
        refine lv_lload_n hx hb dX5_diode_34 rfl (lv_at hl 3 rfl) ?_
        refine jv_lconst1 hx hb dX5_diode_35 ?_
        refine jv_lcmp_lt (tgt := 48) hx hb ⟨by omega, by omega⟩ ⟨by decide, by decide⟩ dX5_diode_36 dX5_diode_37 (by decide) (fun c36 => ?_) (fun c36 => ?_)
        · skip
          refine jv_iconst hx hb dX5_diode_48 ?_
          refine lv_goto (tgt := 53) hx hb dX5_diode_49 (by decide) ?_
          exact JC 3 (by omega) _ _ _ (hP.sub [7, 0, 1, 2, 3, 4, 5, 6] rfl) (hD.sub [7, 0, 1, 2, 3, 4, 5, 6] (by decide) rfl) hS (lv_sub hl [0, 1, 2, 3] rfl)
        · skip
          refine lv_lload_n hx hb dX5_diode_40 rfl (lv_at hl 3 rfl) ?_
          refine jv_ldc2 (n := 1000000) hx hb (by decide) hown k132 dX5_diode_41 ?_
          refine jv_lcmp_le (tgt := 52) hx hb ⟨by omega, by omega⟩ ⟨by decide, by decide⟩ dX5_diode_44 dX5_diode_45 (by decide) (fun c44 => ?_) (fun c44 => ?_)
          · skip
            refine jv_iconst hx hb dX5_diode_52 ?_
            exact JC 0 (by omega) _ _ _ (hP.sub [7, 0, 1, 2, 3, 4, 5, 6] rfl) (hD.sub [7, 0, 1, 2, 3, 4, 5, 6] (by decide) rfl) hS (lv_sub hl [0, 1, 2, 3] rfl)
          · skip
            refine jv_iconst hx hb dX5_diode_48 ?_
            refine lv_goto (tgt := 53) hx hb dX5_diode_49 (by decide) ?_
            exact JC 3 (by omega) _ _ _ (hP.sub [7, 0, 1, 2, 3, 4, 5, 6] rfl) (hD.sub [7, 0, 1, 2, 3, 4, 5, 6] (by decide) rfl) hS (lv_sub hl [0, 1, 2, 3] rfl)
      · skip
        refine jv_iconst hx hb dX5_diode_30 ?_
        refine lv_goto (tgt := 53) hx hb dX5_diode_31 (by decide) ?_
        exact JC 2 (by omega) _ _ _ (hP.sub [7, 0, 1, 2, 3, 4, 5, 6] rfl) (hD.sub [7, 0, 1, 2, 3, 4, 5, 6] (by decide) rfl) hS (lv_sub hl [0, 1, 2, 3] rfl)
    · skip
      refine jv_iconst hx hb dX5_diode_17 ?_
      refine lv_goto (tgt := 53) hx hb dX5_diode_18 (by decide) ?_
      exact JC 1 (by omega) _ _ _ (hP.sub [7, 0, 1, 2, 3, 4, 5, 6] rfl) (hD.sub [7, 0, 1, 2, 3, 4, 5, 6] (by decide) rfl) hS (lv_sub hl [0, 1, 2, 3] rfl)
