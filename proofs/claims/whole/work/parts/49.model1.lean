set_option maxHeartbeats 4000000 in
set_option maxRecDepth 100000 in
/-- clear -/
theorem tX5_clear (l : Launch) (D : va_G) (g : ClassId × ClassId × ClassId) (t0 : Nat) (f : Int → Int64)  : jMv l D g yX5_clear wsX5_clear 1 24 [.ref t0] [(t0, .inl (g.2.1, 16000, .inr (.inl (aW f))))] (S := (Int → Int64)) (fun u => mk0 u) (fun u => [(t0, .inl (g.2.1, 16000, .inr (.inl (aW u))))]) := by
  refine jMv_of (cc := cX5_clear) (maxL := 2) (by decide) rfl (Nat.le_of_ble_eq_true rfl) ?_
  intro p e s m args below meth c Q A hx hb hml hts hown hK hA hret ls hl hP hD
  have hS : va_S A s.heap s.heap [] := va_S.rf
  have hown : s.vm.findClass RX5 = some m.cls := hown
  have hl : lv_has ls 2 [(0, .ref t0)] := hl
  have L2 : ∀ (fuel : Nat) (i : Int) (f' : Int → Int64), (0 ≤ i ∧ i ≤ 16000) → (∀ k, 0 ≤ k → k < i → f' k = jL 0) → ((16000 : Int) - i < (fuel : Int)) → ∀ (H : Heap) (locs : List Loc) (ls : Array Slot), va_P D jcl [(t0, .inl (g.2.1, 16000, .inr (.inl (aW f'))))] H → va_D A [(t0, .inl (g.2.1, 16000, .inr (.inl (aW f'))))] → va_S A s.heap H locs → lv_has ls 2 [(0, .ref t0), (1, .int (jI i))] → W p l e (jR 1 24) s m args below meth c H locs 0 0 Q (F0 m 2 ls []) := by
    intro fuel
    induction fuel with
    | zero =>
      intro i f' hi h1 hfu
      exfalso; omega
    | succ fuel ihL2 =>
      intro i f' hi h1 hfu H locs ls hP hD hS hl
      refine lv_iload_n hx hb dX5_clear_2 rfl (lv_at hl 1 rfl) ?_
      refine jv_sipush hx hb (by decide) dX5_clear_3 ?_
      refine jv_icmp_ge (tgt := 19) hx hb ⟨by omega, by omega⟩ ⟨by decide, by decide⟩ dX5_clear_6 (by decide) (fun c6 => ?_) (fun c6 => ?_)
      · skip
        exact hret  f' _ _ _ _ (fun k q1 q2 => h1 k q1 (by omega)) (hP.sub [0] rfl) (hD.sub [0] (by decide) rfl) hS dX5_clear_19
      · skip
        refine lv_aload_n hx hb dX5_clear_9 rfl (lv_at hl 0 rfl) ?_
        refine lv_iload_n hx hb dX5_clear_10 rfl (lv_at hl 1 rfl) ?_
        refine jv_lconst0 hx hb dX5_clear_11 ?_
        refine jv_wast hx hb hK hP hD hS 0 1 rfl rfl (i := i) (x := (jL 0)) ⟨by omega, by omega⟩ (Nat.le_of_ble_eq_true rfl) dX5_clear_12 (fun H locs hP hD hS => ?_)
        have hP : va_P D jcl [(t0, .inl (g.2.1, 16000, .inr (.inl (aW (upW f' i (jL 0))))))] H := hP
        have hD : va_D A [(t0, .inl (g.2.1, 16000, .inr (.inl (aW (upW f' i (jL 0))))))] := hD
        refine jv_iinc (lv2 := [(1, .int (jI (i + 1))), (0, .ref t0)]) hx hb dX5_clear_13 hl (k := 1) rfl (by decide) rfl (fun ls hl => ?_)
        refine lv_goto (tgt := 2) hx hb dX5_clear_16 (by decide) ?_
        exact ihL2 (i + 1) (upW f' i (jL 0)) (by omega) (fun x q1 q2 => by
          by_cases q3 : x = i
          · rw [q3, upW_eq]
          · rw [upW_ne _ _ q3]; exact h1 x q1 (by omega)) (by omega) _ _ _ (hP.sub [0] rfl) (hD.sub [0] (by decide) rfl) hS (lv_sub hl [1, 0] rfl)
  refine jv_iconst hx hb dX5_clear_0 ?_
  refine lv_istore_n (lv' := [(1, .int (jI 0)), (0, .ref t0)]) hx hb dX5_clear_1 rfl hl (by decide) rfl (fun ls hl => ?_)
  exact L2 (((16000 : Int) - 0).toNat + 1) 0 f (by omega) (fun k _ _ => by omega) (by omega) _ _ _ (hP.sub [0] rfl) (hD.sub [0] (by decide) rfl) hS (lv_sub hl [1, 0] rfl)

set_option maxHeartbeats 4000000 in
set_option maxRecDepth 100000 in
/-- within -/
theorem tX5_within (l : Launch) (D : va_G) (g : ClassId × ClassId × ClassId) (v : Int) (hv : rI v) : jMi l D g yX5_within wsX5_within 1 21 [.int (jI v)] [] (S := Unit) (fun z _ => z = min 1000 (max 0 v)) (fun _ => []) := by
  refine jMi_of (cc := cX5_within) (maxL := 1) (by decide) rfl (Nat.le_of_ble_eq_true rfl) ?_
  intro p e s m args below meth c Q A hx hb hml hts hown hK hA hret ls hl hP hD
  have hS : va_S A s.heap s.heap [] := va_S.rf
  have hown : s.vm.findClass RX5 = some m.cls := hown
  have hl : lv_has ls 1 [(0, .int (jI v))] := hl
  refine lv_iload_n hx hb dX5_within_0 rfl (lv_at hl 0 rfl) ?_
  refine jv_if_ge (tgt := 8) hx hb ⟨by omega, by omega⟩ dX5_within_1 (by decide) (fun c1 => ?_) (fun c1 => ?_)
  · skip
    refine lv_iload_n hx hb dX5_within_8 rfl (lv_at hl 0 rfl) ?_
    refine jv_sipush hx hb (by decide) dX5_within_9 ?_
    refine jv_icmp_le (tgt := 21) hx hb ⟨by omega, by omega⟩ ⟨by decide, by decide⟩ dX5_within_12 (by decide) (fun c12 => ?_) (fun c12 => ?_)
    · skip
      refine lv_iload_n hx hb dX5_within_21 rfl (lv_at hl 0 rfl) ?_
      exact hret v () _ _ _ _ (by omega) (hP.sub [] rfl) (hD.sub [] (by decide) rfl) hS dX5_within_22
    · skip
      refine jv_sipush hx hb (by decide) dX5_within_15 ?_
      refine lv_goto (tgt := 22) hx hb dX5_within_18 (by decide) ?_
      exact hret 1000 () _ _ _ _ (by omega) (hP.sub [] rfl) (hD.sub [] (by decide) rfl) hS dX5_within_22
  · skip
    refine jv_iconst hx hb dX5_within_4 ?_
    refine lv_goto (tgt := 22) hx hb dX5_within_5 (by decide) ?_
    exact hret 0 () _ _ _ _ (by omega) (hP.sub [] rfl) (hD.sub [] (by decide) rfl) hS dX5_within_22

set_option maxHeartbeats 4000000 in
set_option maxRecDepth 100000 in
/-- mark -/
theorem tX5_mark (l : Launch) (D : va_G) (g : ClassId × ClassId × ClassId) (t0 : Nat) (f : Int → Int64) (x0 : Int) (y0 : Int) (x1 : Int) (y1 : Int) (hxy : rI x0 ∧ rI y0 ∧ rI x1 ∧ rI y1) : jMv l D g yX5_mark wsX5_mark 2 60 [.ref t0, .int (jI x0), .int (jI y0), .int (jI x1), .int (jI y1)] [(t0, .inl (g.2.1, 16000, .inr (.inl (aW f))))] (S := (Int → Int64)) (fun u => mkM f u x0 y0 x1 y1) (fun u => [(t0, .inl (g.2.1, 16000, .inr (.inl (aW u))))]) := by
  refine jMv_of (cc := cX5_mark) (maxL := 13) (by decide) rfl (Nat.le_of_ble_eq_true rfl) ?_
  intro p e s m args below meth c Q A hx hb hml hts hown hK hA hret ls hl hP hD
  have hS : va_S A s.heap s.heap [] := va_S.rf
  have hown : s.vm.findClass RX5 = some m.cls := hown
  have k94 := hts (.constantLong RX5 94 (-1)) (by decide +kernel)
  have hl : lv_has ls 13 [(0, .ref t0), (1, .int (jI x0)), (2, .int (jI y0)), (3, .int (jI x1)), (4, .int (jI y1))] := hl
  refine lv_iload_n hx hb dX5_mark_0 rfl (lv_at hl 1 rfl) ?_
  refine jc_Si (As := [.int (jI x0)]) (rest := []) (wq := [(t0, .inl (g.2.1, 16000, .inr (.inl (aW f))))]) ⟨hx, hb, hml, hown, hts⟩ (tX5_within l D g x0 (hxy.1)) (va_cwS 1 hts gX5_mark_X5_within rfl rfl rfl (by decide +kernel) ⟨Nat.le_of_ble_eq_true rfl, Nat.le_of_ble_eq_true rfl⟩) hK hP hD hS hA [] [0] rfl rfl (by decide) (by decide) (by decide) rfl rfl hl.1 (Nat.le_of_ble_eq_true rfl) dX5_mark_1 ⟨Nat.le_of_ble_eq_true rfl, Nat.le_of_ble_eq_true rfl⟩ (fun fr9 u H locs hu hP hD hS => ?_)
  have hu : fr9 = min 1000 (max 0 x0) := hu
  have hfr := hu
  have hP : va_P D jcl [(t0, .inl (g.2.1, 16000, .inr (.inl (aW f))))] H := hP
  have hD : va_D A [(t0, .inl (g.2.1, 16000, .inr (.inl (aW f))))] := hD
  refine lv_istore (lv' := [(5, .int (jI fr9)), (0, .ref t0), (1, .int (jI x0)), (2, .int (jI y0)), (3, .int (jI x1)), (4, .int (jI y1))]) hx hb dX5_mark_4 hl (by decide) rfl (fun ls hl => ?_)
  refine lv_iload_n hx hb dX5_mark_6 rfl (lv_at hl 4 rfl) ?_
  refine jc_Si (As := [.int (jI x1)]) (rest := []) (wq := [(t0, .inl (g.2.1, 16000, .inr (.inl (aW f))))]) ⟨hx, hb, hml, hown, hts⟩ (tX5_within l D g x1 (hxy.2.2.1)) (va_cwS 1 hts gX5_mark_X5_within rfl rfl rfl (by decide +kernel) ⟨Nat.le_of_ble_eq_true rfl, Nat.le_of_ble_eq_true rfl⟩) hK hP hD hS hA [] [0] rfl rfl (by decide) (by decide) (by decide) rfl rfl hl.1 (Nat.le_of_ble_eq_true rfl) dX5_mark_7 ⟨Nat.le_of_ble_eq_true rfl, Nat.le_of_ble_eq_true rfl⟩ (fun en9 u H locs hu hP hD hS => ?_)
  have hu : en9 = min 1000 (max 0 x1) := hu
  have hen := hu
  have hP : va_P D jcl [(t0, .inl (g.2.1, 16000, .inr (.inl (aW f))))] H := hP
  have hD : va_D A [(t0, .inl (g.2.1, 16000, .inr (.inl (aW f))))] := hD
  refine lv_istore (lv' := [(6, .int (jI en9)), (5, .int (jI fr9)), (0, .ref t0), (1, .int (jI x0)), (2, .int (jI y0)), (3, .int (jI x1)), (4, .int (jI y1))]) hx hb dX5_mark_10 hl (by decide) rfl (fun ls hl => ?_)
  refine lv_iload_n hx hb dX5_mark_12 rfl (lv_at hl 4 rfl) ?_
  refine jc_Si (As := [.int (jI y0)]) (rest := []) (wq := [(t0, .inl (g.2.1, 16000, .inr (.inl (aW f))))]) ⟨hx, hb, hml, hown, hts⟩ (tX5_within l D g y0 (hxy.2.1)) (va_cwS 1 hts gX5_mark_X5_within rfl rfl rfl (by decide +kernel) ⟨Nat.le_of_ble_eq_true rfl, Nat.le_of_ble_eq_true rfl⟩) hK hP hD hS hA [] [0] rfl rfl (by decide) (by decide) (by decide) rfl rfl hl.1 (Nat.le_of_ble_eq_true rfl) dX5_mark_13 ⟨Nat.le_of_ble_eq_true rfl, Nat.le_of_ble_eq_true rfl⟩ (fun yy0 u H locs hu hP hD hS => ?_)
  have hu : yy0 = min 1000 (max 0 y0) := hu
  have hyy := hu
  have hP : va_P D jcl [(t0, .inl (g.2.1, 16000, .inr (.inl (aW f))))] H := hP
  have hD : va_D A [(t0, .inl (g.2.1, 16000, .inr (.inl (aW f))))] := hD
  have LO : ∀ (fuel : Nat) (y9 : Int) (f' : Int → Int64), (yy0 ≤ y9 ∧ y9 ≤ max yy0 (min 1000 (max 0 y1))) → (mkr f f' fr9 en9 yy0 y9 (fr9 / 64)) → (max yy0 (min 1000 (max 0 y1)) - y9 < (fuel : Int)) → ∀ (H : Heap) (locs : List Loc) (ls : Array Slot), va_P D jcl [(t0, .inl (g.2.1, 16000, .inr (.inl (aW f'))))] H → va_D A [(t0, .inl (g.2.1, 16000, .inr (.inl (aW f'))))] → va_S A s.heap H locs → lv_has ls 13 [(0, .ref t0), (4, .int (jI y1)), (5, .int (jI fr9)), (6, .int (jI en9)), (7, .int (jI y9))] → W p l e (jR 2 60) s m args below meth c H locs 0 0 Q (F0 m 18 ls []) := by
    intro fuel
    induction fuel with
    | zero =>
      intro y9 f' hy h1 hfu
      exfalso; omega
    | succ fuel ihLO =>
      intro y9 f' hy h1 hfu H locs ls hP hD hS hl
      refine lv_iload hx hb dX5_mark_18 (lv_at hl 4 rfl) ?_
      refine lv_iload hx hb dX5_mark_20 (lv_at hl 1 rfl) ?_
      refine jc_Si (As := [.int (jI y1)]) (rest := [.int (jI y9)]) (wq := [(t0, .inl (g.2.1, 16000, .inr (.inl (aW f'))))]) ⟨hx, hb, hml, hown, hts⟩ (tX5_within l D g y1 (hxy.2.2.2)) (va_cwS 1 hts gX5_mark_X5_within rfl rfl rfl (by decide +kernel) ⟨Nat.le_of_ble_eq_true rfl, Nat.le_of_ble_eq_true rfl⟩) hK hP hD hS hA [] [0] rfl rfl (by decide) (by decide) (by decide) rfl rfl hl.1 (Nat.le_of_ble_eq_true rfl) dX5_mark_22 ⟨Nat.le_of_ble_eq_true rfl, Nat.le_of_ble_eq_true rfl⟩ (fun tp9 u H locs hu hP hD hS => ?_)
      have hu : tp9 = min 1000 (max 0 y1) := hu
      have htp := hu
      have hP : va_P D jcl [(t0, .inl (g.2.1, 16000, .inr (.inl (aW f'))))] H := hP
      have hD : va_D A [(t0, .inl (g.2.1, 16000, .inr (.inl (aW f'))))] := hD
      refine jv_icmp_ge (tgt := 138) hx hb ⟨by omega, by omega⟩ ⟨by omega, by omega⟩ dX5_mark_25 (by decide) (fun c25 => ?_) (fun c25 => ?_)
      · skip
        exact hret  f' _ _ _ _ (mkM_of h1 hfr hen hyy htp (by omega)) (hP.sub [0] rfl) (hD.sub [0] (by decide) rfl) hS dX5_mark_138
      · skip
        have LI : ∀ (fuel : Nat) (w9 : Int) (g' : Int → Int64), (fr9 / 64 ≤ w9 ∧ w9 ≤ 16) → (mkr f g' fr9 en9 yy0 y9 w9) → ((16 : Int) - w9 < (fuel : Int)) → ∀ (H : Heap) (locs : List Loc) (ls : Array Slot), va_P D jcl [(t0, .inl (g.2.1, 16000, .inr (.inl (aW g'))))] H → va_D A [(t0, .inl (g.2.1, 16000, .inr (.inl (aW g'))))] → va_S A s.heap H locs → lv_has ls 13 [(0, .ref t0), (4, .int (jI y1)), (5, .int (jI fr9)), (6, .int (jI en9)), (7, .int (jI y9)), (8, .int (jI w9))] → W p l e (jR 2 60) s m args below meth c H locs 0 0 Q (F0 m 35 ls []) := by
          intro fuel
          induction fuel with
          | zero =>
            intro w9 g' hw h2 hfu
            exfalso; omega
          | succ fuel ihLI =>
            intro w9 g' hw h2 hfu H locs ls hP hD hS hl
            refine jv_bipush hx hb (by decide) dX5_mark_35 ?_
            refine lv_iload hx hb dX5_mark_37 (lv_at hl 5 rfl) ?_
            refine jv_imul hx hb dX5_mark_39 ?_
            refine lv_iload hx hb dX5_mark_40 (lv_at hl 3 rfl) ?_
            refine jv_icmp_ge (tgt := 132) hx hb ⟨by omega, by omega⟩ ⟨by omega, by omega⟩ dX5_mark_42 (by decide) (fun c42 => ?_) (fun c42 => ?_)
            · skip
              refine jv_iinc (lv2 := [(7, .int (jI (y9 + 1))), (0, .ref t0), (4, .int (jI y1)), (5, .int (jI fr9)), (6, .int (jI en9)), (8, .int (jI w9))]) hx hb dX5_mark_132 hl (k := 4) rfl (by decide) rfl (fun ls hl => ?_)
              refine lv_goto (tgt := 18) hx hb dX5_mark_135 (by decide) ?_
              exact ihLO (y9 + 1) g' (by omega) (mkr_row h2 (by omega)) (by omega) _ _ _ (hP.sub [0] rfl) (hD.sub [0] (by decide) rfl) hS (lv_sub hl [1, 2, 3, 4, 0] rfl)
            · skip
              have J73 : ∀ (lf9 : Int64), (∀ b : Nat, b < 64 → wb lf9 b = decide (fr9 ≤ 64 * w9 + (b : Int))) → ∀ (H : Heap) (locs : List Loc) (ls : Array Slot), va_P D jcl [(t0, .inl (g.2.1, 16000, .inr (.inl (aW g'))))] H → va_D A [(t0, .inl (g.2.1, 16000, .inr (.inl (aW g'))))] → va_S A s.heap H locs → lv_has ls 13 [(0, .ref t0), (4, .int (jI y1)), (5, .int (jI fr9)), (6, .int (jI en9)), (7, .int (jI y9)), (8, .int (jI w9))] → W p l e (jR 2 60) s m args below meth c H locs 0 0 Q (F0 m 73 ls [.long lf9]) := by
                intro lf9 hlf H locs ls hP hD hS hl
                refine lv_lstore (lv' := [(9, .long lf9), (0, .ref t0), (4, .int (jI y1)), (5, .int (jI fr9)), (6, .int (jI en9)), (7, .int (jI y9)), (8, .int (jI w9))]) hx hb dX5_mark_73 hl (by decide) rfl (fun ls hl => ?_)
                have J106 : ∀ (rg9 : Int64), (∀ b : Nat, b < 64 → wb rg9 b = decide (64 * w9 + (b : Int) < en9)) → ∀ (H : Heap) (locs : List Loc) (ls : Array Slot), va_P D jcl [(t0, .inl (g.2.1, 16000, .inr (.inl (aW g'))))] H → va_D A [(t0, .inl (g.2.1, 16000, .inr (.inl (aW g'))))] → va_S A s.heap H locs → lv_has ls 13 [(0, .ref t0), (4, .int (jI y1)), (5, .int (jI fr9)), (6, .int (jI en9)), (7, .int (jI y9)), (8, .int (jI w9)), (9, .long lf9)] → W p l e (jR 2 60) s m args below meth c H locs 0 0 Q (F0 m 106 ls [.long rg9]) := by
                  intro rg9 hrg H locs ls hP hD hS hl
                  refine lv_lstore (lv' := [(11, .long rg9), (0, .ref t0), (4, .int (jI y1)), (5, .int (jI fr9)), (6, .int (jI en9)), (7, .int (jI y9)), (8, .int (jI w9)), (9, .long lf9)]) hx hb dX5_mark_106 hl (by decide) rfl (fun ls hl => ?_)
                  have hm9 : mspec (lf9 &&& rg9) fr9 en9 w9 := fun b hb => by
                    rw [wb_and, hlf b hb, hrg b hb, Bool.eq_iff_iff]
                    simp only [Bool.and_eq_true, decide_eq_true_eq]
                  refine lv_aload_n hx hb dX5_mark_108 rfl (lv_at hl 1 rfl) ?_
                  refine jv_bipush hx hb (by decide) dX5_mark_109 ?_
                  refine lv_iload hx hb dX5_mark_111 (lv_at hl 5 rfl) ?_
                  refine jv_imul hx hb dX5_mark_113 ?_
                  refine lv_iload hx hb dX5_mark_114 (lv_at hl 6 rfl) ?_
                  refine jv_iadd hx hb dX5_mark_116 ?_
                  refine lv_dup2_11 hx hb dX5_mark_117 rfl rfl ?_
                  refine jv_wald hx hb hK hP 0 1 rfl rfl (i := ((16 * y9) + w9)) ⟨by omega, by omega⟩ (Nat.le_of_ble_eq_true rfl) dX5_mark_118 ?_
                  refine lv_lload hx hb dX5_mark_119 (lv_at hl 7 rfl) ?_
                  refine lv_lload hx hb dX5_mark_121 (lv_at hl 0 rfl) ?_
                  refine lv_land hx hb dX5_mark_123 ?_
                  refine lv_lor hx hb dX5_mark_124 ?_
                  refine jv_wast hx hb hK hP hD hS 0 1 rfl rfl (i := ((16 * y9) + w9)) (x := ((g' ((16 * y9) + w9)) ||| (lf9 &&& rg9))) ⟨by omega, by omega⟩ (Nat.le_of_ble_eq_true rfl) dX5_mark_125 (fun H locs hP hD hS => ?_)
                  have hP : va_P D jcl [(t0, .inl (g.2.1, 16000, .inr (.inl (aW (upW g' ((16 * y9) + w9) ((g' ((16 * y9) + w9)) ||| (lf9 &&& rg9)))))))] H := hP
                  have hD : va_D A [(t0, .inl (g.2.1, 16000, .inr (.inl (aW (upW g' ((16 * y9) + w9) ((g' ((16 * y9) + w9)) ||| (lf9 &&& rg9)))))))] := hD
                  refine jv_iinc (lv2 := [(8, .int (jI (w9 + 1))), (11, .long rg9), (0, .ref t0), (4, .int (jI y1)), (5, .int (jI fr9)), (6, .int (jI en9)), (7, .int (jI y9)), (9, .long lf9)]) hx hb dX5_mark_126 hl (k := 6) rfl (by decide) rfl (fun ls hl => ?_)
                  refine lv_goto (tgt := 35) hx hb dX5_mark_129 (by decide) ?_
                  exact ihLI (w9 + 1) (upW g' ((16 * y9) + w9) ((g' ((16 * y9) + w9)) ||| (lf9 &&& rg9))) (by omega) (mkr_step h2 (by omega) ⟨by omega, by omega⟩ hy.1 hm9) (by omega) _ _ _ (hP.sub [0] rfl) (hD.sub [0] (by decide) rfl) hS (lv_sub hl [2, 3, 4, 5, 6, 0] rfl)
                refine lv_iload hx hb dX5_mark_75 (lv_at hl 4 rfl) ?_
                refine jv_bipush hx hb (by decide) dX5_mark_77 ?_
                refine lv_iload hx hb dX5_mark_79 (lv_at hl 6 rfl) ?_
                refine jv_imul hx hb dX5_mark_81 ?_
                refine jv_bipush hx hb (by decide) dX5_mark_82 ?_
                refine jv_iadd hx hb dX5_mark_84 ?_
                refine jv_icmp_ge (tgt := 103) hx hb ⟨by omega, by omega⟩ ⟨by omega, by omega⟩ dX5_mark_85 (by decide) (fun c85 => ?_) (fun c85 => ?_)
                · skip
                  refine jv_ldc2 (n := (-1)) hx hb (by decide) hown k94 dX5_mark_103 ?_
                  exact J106 (jL (-1)) (fun b hb => by
                    first
                    | (rw [wb_lt ⟨by omega, by omega⟩ hb]; exact decide_eq_decide.mpr (by omega))
                    | (rw [wb_m1 ⟨b, hb⟩]; exact (dec_t (by omega)).symm)) _ _ _ (hP.sub [0] rfl) (hD.sub [0] (by decide) rfl) hS (lv_sub hl [1, 2, 3, 4, 5, 6, 0] rfl)
                · skip
                  refine jv_lconst1 hx hb dX5_mark_88 ?_
                  refine lv_iload hx hb dX5_mark_89 (lv_at hl 4 rfl) ?_
                  refine jv_bipush hx hb (by decide) dX5_mark_91 ?_
                  refine lv_iload hx hb dX5_mark_93 (lv_at hl 6 rfl) ?_
                  refine jv_imul hx hb dX5_mark_95 ?_
                  refine jv_isub hx hb dX5_mark_96 ?_
                  refine lv_lshl (v := (wSl (jL 1) (en9 - (64 * w9)))) hx hb dX5_mark_97 rfl ?_
                  refine jv_lconst1 hx hb dX5_mark_98 ?_
                  refine lv_lsub hx hb dX5_mark_99 ?_
                  refine lv_goto (tgt := 106) hx hb dX5_mark_100 (by decide) ?_
                  exact J106 ((wSl (jL 1) (en9 - (64 * w9))) - (jL 1)) (fun b hb => by
                    first
                    | (rw [wb_lt ⟨by omega, by omega⟩ hb]; exact decide_eq_decide.mpr (by omega))
                    | (rw [wb_m1 ⟨b, hb⟩]; exact (dec_t (by omega)).symm)) _ _ _ (hP.sub [0] rfl) (hD.sub [0] (by decide) rfl) hS (lv_sub hl [1, 2, 3, 4, 5, 6, 0] rfl)
              refine lv_iload hx hb dX5_mark_45 (lv_at hl 2 rfl) ?_
              refine jv_bipush hx hb (by decide) dX5_mark_47 ?_
              refine lv_iload hx hb dX5_mark_49 (lv_at hl 5 rfl) ?_
              refine jv_imul hx hb dX5_mark_51 ?_
              refine jv_icmp_le (tgt := 70) hx hb ⟨by omega, by omega⟩ ⟨by omega, by omega⟩ dX5_mark_52 (by decide) (fun c52 => ?_) (fun c52 => ?_)
              · skip
                refine jv_ldc2 (n := (-1)) hx hb (by decide) hown k94 dX5_mark_70 ?_
                exact J73 (jL (-1)) (fun b hb => by
                  first
                  | (rw [wb_ge ⟨by omega, by omega⟩ hb]; exact decide_eq_decide.mpr (by omega))
                  | (rw [wb_m1 ⟨b, hb⟩]; exact (dec_t (by omega)).symm)) _ _ _ (hP.sub [0] rfl) (hD.sub [0] (by decide) rfl) hS (lv_sub hl [0, 1, 2, 3, 4, 5] rfl)
              · skip
                refine jv_ldc2 (n := (-1)) hx hb (by decide) hown k94 dX5_mark_55 ?_
                refine lv_iload hx hb dX5_mark_58 (lv_at hl 2 rfl) ?_
                refine jv_bipush hx hb (by decide) dX5_mark_60 ?_
                refine lv_iload hx hb dX5_mark_62 (lv_at hl 5 rfl) ?_
                refine jv_imul hx hb dX5_mark_64 ?_
                refine jv_isub hx hb dX5_mark_65 ?_
                refine lv_lshl (v := (wSl (jL (-1)) (fr9 - (64 * w9)))) hx hb dX5_mark_66 rfl ?_
                refine lv_goto (tgt := 73) hx hb dX5_mark_67 (by decide) ?_
                exact J73 (wSl (jL (-1)) (fr9 - (64 * w9))) (fun b hb => by
                  first
                  | (rw [wb_ge ⟨by omega, by omega⟩ hb]; exact decide_eq_decide.mpr (by omega))
                  | (rw [wb_m1 ⟨b, hb⟩]; exact (dec_t (by omega)).symm)) _ _ _ (hP.sub [0] rfl) (hD.sub [0] (by decide) rfl) hS (lv_sub hl [0, 1, 2, 3, 4, 5] rfl)
        refine lv_iload hx hb dX5_mark_28 (lv_at hl 2 rfl) ?_
        refine jv_bipush hx hb (by decide) dX5_mark_30 ?_
        refine jv_idivN hx hb ⟨by omega, by omega, by omega⟩ ⟨by omega, by omega, by omega⟩ dX5_mark_32 ?_
        refine lv_istore (lv' := [(8, .int (jI (fr9 / 64))), (0, .ref t0), (4, .int (jI y1)), (5, .int (jI fr9)), (6, .int (jI en9)), (7, .int (jI y9))]) hx hb dX5_mark_33 hl (by decide) rfl (fun ls hl => ?_)
        exact LI (((16 : Int) - (fr9 / 64)).toNat + 1) (fr9 / 64) f' (by omega) (h1) (by omega) _ _ _ (hP.sub [0] rfl) (hD.sub [0] (by decide) rfl) hS (lv_sub hl [1, 2, 3, 4, 5, 0] rfl)
  refine lv_istore (lv' := [(7, .int (jI yy0)), (6, .int (jI en9)), (5, .int (jI fr9)), (0, .ref t0), (1, .int (jI x0)), (2, .int (jI y0)), (3, .int (jI x1)), (4, .int (jI y1))]) hx hb dX5_mark_16 hl (by decide) rfl (fun ls hl => ?_)
  exact LO ((max yy0 (min 1000 (max 0 y1)) - yy0).toNat + 1) yy0 f (by omega) (mkr_0) (by omega) _ _ _ (hP.sub [0] rfl) (hD.sub [0] (by decide) rfl) hS (lv_sub hl [3, 7, 2, 1, 0] rfl)

set_option maxHeartbeats 4000000 in
set_option maxRecDepth 100000 in
/-- ones -/
theorem tX5_ones (l : Launch) (D : va_G) (g : ClassId × ClassId × ClassId) (v : Int64)  : jMi l D g yX5_ones wsX5_ones 1 24 [.long v] [] (S := Unit) (fun z _ => z = pcW v) (fun _ => []) := by
  refine jMi_of (cc := cX5_ones) (maxL := 5) (by decide) rfl (Nat.le_of_ble_eq_true rfl) ?_
  intro p e s m args below meth c Q A hx hb hml hts hown hK hA hret ls hl hP hD
  have hS : va_S A s.heap s.heap [] := va_S.rf
  have hown : s.vm.findClass RX5 = some m.cls := hown
  have hl : lv_has ls 5 [(0, .long v)] := hl
  have L4 : ∀ (fuel : Nat) (xx : Int64) (nn : Int), (nn + pcW xx = pcW v ∧ 0 ≤ nn) → (0 ≤ pcW xx) → (pcW xx < (fuel : Int)) → ∀ (H : Heap) (locs : List Loc) (ls : Array Slot), va_P D jcl [] H → va_D A [] → va_S A s.heap H locs → lv_has ls 5 [(2, .int (jI nn)), (3, .long xx)] → W p l e (jR 1 24) s m args below meth c H locs 0 0 Q (F0 m 4 ls []) := by
    intro fuel
    induction fuel with
    | zero =>
      intro xx nn hn hpx hfu
      exfalso; omega
    | succ fuel ihL4 =>
      intro xx nn hn hpx hfu H locs ls hP hD hS hl
      have hpb := pcW_bd xx
      have hpb2 := pcW_bd v
      refine lv_lload_n hx hb dX5_ones_4 rfl (lv_at hl 1 rfl) ?_
      refine jv_lconst0 hx hb dX5_ones_5 ?_
      refine jw_lcmp_eq (x := xx) (y := (jL 0)) (tgt := 22) hx hb dX5_ones_6 dX5_ones_7 (by decide) (fun c6 => ?_) (fun c6 => ?_)
      · skip
        refine lv_iload_n hx hb dX5_ones_22 rfl (lv_at hl 0 rfl) ?_
        exact hret nn () _ _ _ _ (by
          rw [c6, pcW_0] at hn
          omega) (hP.sub [] rfl) (hD.sub [] (by decide) rfl) hS dX5_ones_23
      · skip
        have hpd := pcW_dec c6
        refine jv_iinc (lv2 := [(2, .int (jI (nn + 1))), (3, .long xx)]) hx hb dX5_ones_10 hl (k := 0) rfl (by decide) rfl (fun ls hl => ?_)
        refine lv_lload_n hx hb dX5_ones_13 rfl (lv_at hl 1 rfl) ?_
        refine lv_lload_n hx hb dX5_ones_14 rfl (lv_at hl 1 rfl) ?_
        refine jv_lconst1 hx hb dX5_ones_15 ?_
        refine lv_lsub hx hb dX5_ones_16 ?_
        refine lv_land hx hb dX5_ones_17 ?_
        refine lv_lstore_n (lv' := [(3, .long (xx &&& (xx - (jL 1)))), (2, .int (jI (nn + 1)))]) hx hb dX5_ones_18 rfl hl (by decide) rfl (fun ls hl => ?_)
        refine lv_goto (tgt := 4) hx hb dX5_ones_19 (by decide) ?_
        exact ihL4 (xx &&& (xx - (jL 1))) (nn + 1) (by
          have := pcW_dec c6
          have := pcW_bd v
          exact ⟨by omega, by omega⟩) ((pcW_bd _).1) (by omega) _ _ _ (hP.sub [] rfl) (hD.sub [] (by decide) rfl) hS (lv_sub hl [1, 0] rfl)
  refine jv_iconst hx hb dX5_ones_0 ?_
  refine lv_istore_n (lv' := [(2, .int (jI 0)), (0, .long v)]) hx hb dX5_ones_1 rfl hl (by decide) rfl (fun ls hl => ?_)
  refine lv_lload_n hx hb dX5_ones_2 rfl (lv_at hl 1 rfl) ?_
  refine lv_lstore_n (lv' := [(3, .long v), (2, .int (jI 0)), (0, .long v)]) hx hb dX5_ones_3 rfl hl (by decide) rfl (fun ls hl => ?_)
  exact L4 ((pcW v).toNat + 1) v 0 (⟨by omega, by omega⟩) ((pcW_bd _).1) (by omega) _ _ _ (hP.sub [] rfl) (hD.sub [] (by decide) rfl) hS (lv_sub hl [1, 0] rfl)

set_option maxHeartbeats 4000000 in
set_option maxRecDepth 100000 in
/-- marked -/
theorem tX5_marked (l : Launch) (D : va_G) (g : ClassId × ClassId × ClassId) (hm : Nat) (md : Nat → Nat) (co : Int) (ly : Int) (nt : Int) (ns : Int) (nd : Int) (np : Int) (nq : Int) (tq : Int) (mf : Int → Int64) (x0 : Int) (y0 : Int) (x1 : Int) (y1 : Int) (hxy : 0 ≤ x0 ∧ x0 ≤ x1 ∧ x1 ≤ 1000 ∧ 0 ≤ y0 ∧ y0 ≤ y1 ∧ y1 ≤ 1000) : jMi l D g yX5_marked wsX5_marked 2 60 [.ref hm, .int (jI x0), .int (jI y0), .int (jI x1), .int (jI y1)] [(hm, .inr (5, [.int (jI co), .int (jI ly), .int (jI nt), .ref (md 3), .int (jI ns), .ref (md 5), .ref (md 6), .ref (md 7), .int (jI nd), .ref (md 9), .ref (md 10), .ref (md 11), .int (jI np), .ref (md 13), .ref (md 14), .ref (md 15), .ref (md 16), .ref (md 17), .ref (md 18), .ref (md 19), .ref (md 20), .int (jI nq), .ref (md 22), .ref (md 23), .ref (md 24), .ref (md 25), .ref (md 26), .int (jI tq), .ref (md 28), .ref (md 29), .ref (md 30)])), ((md 29), .inl (g.2.1, 16000, .inr (.inl (aW mf))))] (S := Unit) (fun z _ => z = cm (mk mf) x0 x1 y0 y1) (fun _ => [(hm, .inr (5, [.int (jI co), .int (jI ly), .int (jI nt), .ref (md 3), .int (jI ns), .ref (md 5), .ref (md 6), .ref (md 7), .int (jI nd), .ref (md 9), .ref (md 10), .ref (md 11), .int (jI np), .ref (md 13), .ref (md 14), .ref (md 15), .ref (md 16), .ref (md 17), .ref (md 18), .ref (md 19), .ref (md 20), .int (jI nq), .ref (md 22), .ref (md 23), .ref (md 24), .ref (md 25), .ref (md 26), .int (jI tq), .ref (md 28), .ref (md 29), .ref (md 30)])), ((md 29), .inl (g.2.1, 16000, .inr (.inl (aW mf))))]) := by
  refine jMi_of (cc := cX5_marked) (maxL := 12) (by decide) rfl (Nat.le_of_ble_eq_true rfl) ?_
  intro p e s m args below meth c Q A hx hb hml hts hown hK hA hret ls hl hP hD
  have hS : va_S A s.heap s.heap [] := va_S.rf
  have hown : s.vm.findClass RX5 = some m.cls := hown
  have f74 := hts (.fieldLink RX5 74 "AntennaFillModel" "marks" "[J") (by decide +kernel)
  have inX5 : ∀ w ∈ wsX50, w ∈ wsX5_marked := by decide +kernel
  have k94 := hts (.constantLong RX5 94 (-1)) (by decide +kernel)
  have hl : lv_has ls 12 [(0, .ref hm), (1, .int (jI x0)), (2, .int (jI y0)), (3, .int (jI x1)), (4, .int (jI y1))] := hl
  have LO : ∀ (fuel : Nat) (y9 : Int) (nn : Int), (y0 ≤ y9 ∧ y9 ≤ y1) → (nn = cm (mk mf) x0 x1 y0 y9) → (y1 + 1 - y9 < (fuel : Int)) → ∀ (H : Heap) (locs : List Loc) (ls : Array Slot), va_P D jcl [(hm, .inr (5, [.int (jI co), .int (jI ly), .int (jI nt), .ref (md 3), .int (jI ns), .ref (md 5), .ref (md 6), .ref (md 7), .int (jI nd), .ref (md 9), .ref (md 10), .ref (md 11), .int (jI np), .ref (md 13), .ref (md 14), .ref (md 15), .ref (md 16), .ref (md 17), .ref (md 18), .ref (md 19), .ref (md 20), .int (jI nq), .ref (md 22), .ref (md 23), .ref (md 24), .ref (md 25), .ref (md 26), .int (jI tq), .ref (md 28), .ref (md 29), .ref (md 30)])), ((md 29), .inl (g.2.1, 16000, .inr (.inl (aW mf))))] H → va_D A [(hm, .inr (5, [.int (jI co), .int (jI ly), .int (jI nt), .ref (md 3), .int (jI ns), .ref (md 5), .ref (md 6), .ref (md 7), .int (jI nd), .ref (md 9), .ref (md 10), .ref (md 11), .int (jI np), .ref (md 13), .ref (md 14), .ref (md 15), .ref (md 16), .ref (md 17), .ref (md 18), .ref (md 19), .ref (md 20), .int (jI nq), .ref (md 22), .ref (md 23), .ref (md 24), .ref (md 25), .ref (md 26), .int (jI tq), .ref (md 28), .ref (md 29), .ref (md 30)])), ((md 29), .inl (g.2.1, 16000, .inr (.inl (aW mf))))] → va_S A s.heap H locs → lv_has ls 12 [(0, .ref hm), (1, .int (jI x0)), (2, .int (jI y0)), (3, .int (jI x1)), (4, .int (jI y1)), (5, .int (jI nn)), (6, .int (jI y9))] → W p l e (jR 2 60) s m args below meth c H locs 0 0 Q (F0 m 6 ls []) := by
    intro fuel
    induction fuel with
    | zero =>
      intro y9 nn hy h1 hfu
      exfalso; omega
    | succ fuel ihLO =>
      intro y9 nn hy h1 hfu H locs ls hP hD hS hl
      have hcb := cm_bd (P := mk mf) (a := x0) (b := x1) (c := y0) (d := y9) hxy.2.1 hy.1
      have hcb2 := mul_bd (a := y9 - y0) (b := x1 - x0) (A := 1000) (B := 1000) (by omega) (by omega)
      refine lv_iload hx hb dX5_marked_6 (lv_at hl 6 rfl) ?_
      refine lv_iload hx hb dX5_marked_8 (lv_at hl 4 rfl) ?_
      refine jv_icmp_ge (tgt := 126) hx hb ⟨by omega, by omega⟩ ⟨by omega, by omega⟩ dX5_marked_10 (by decide) (fun c10 => ?_) (fun c10 => ?_)
      · skip
        refine lv_iload hx hb dX5_marked_126 (lv_at hl 5 rfl) ?_
        exact hret nn () _ _ _ _ (by rw [show y1 = y9 by omega]; exact h1) (hP.sub [0, 1] rfl) (hD.sub [0, 1] (by decide) rfl) hS dX5_marked_128
      · skip
        have LI : ∀ (fuel : Nat) (w9 : Int) (n2 : Int), (x0 / 64 ≤ w9 ∧ w9 ≤ 16) → (n2 = nn + cn (rwP mf x0 x1 y9) (64 * (x0 / 64)) (64 * w9)) → ((17 : Int) - w9 < (fuel : Int)) → ∀ (H : Heap) (locs : List Loc) (ls : Array Slot), va_P D jcl [(hm, .inr (5, [.int (jI co), .int (jI ly), .int (jI nt), .ref (md 3), .int (jI ns), .ref (md 5), .ref (md 6), .ref (md 7), .int (jI nd), .ref (md 9), .ref (md 10), .ref (md 11), .int (jI np), .ref (md 13), .ref (md 14), .ref (md 15), .ref (md 16), .ref (md 17), .ref (md 18), .ref (md 19), .ref (md 20), .int (jI nq), .ref (md 22), .ref (md 23), .ref (md 24), .ref (md 25), .ref (md 26), .int (jI tq), .ref (md 28), .ref (md 29), .ref (md 30)])), ((md 29), .inl (g.2.1, 16000, .inr (.inl (aW mf))))] H → va_D A [(hm, .inr (5, [.int (jI co), .int (jI ly), .int (jI nt), .ref (md 3), .int (jI ns), .ref (md 5), .ref (md 6), .ref (md 7), .int (jI nd), .ref (md 9), .ref (md 10), .ref (md 11), .int (jI np), .ref (md 13), .ref (md 14), .ref (md 15), .ref (md 16), .ref (md 17), .ref (md 18), .ref (md 19), .ref (md 20), .int (jI nq), .ref (md 22), .ref (md 23), .ref (md 24), .ref (md 25), .ref (md 26), .int (jI tq), .ref (md 28), .ref (md 29), .ref (md 30)])), ((md 29), .inl (g.2.1, 16000, .inr (.inl (aW mf))))] → va_S A s.heap H locs → lv_has ls 12 [(0, .ref hm), (1, .int (jI x0)), (2, .int (jI y0)), (3, .int (jI x1)), (4, .int (jI y1)), (5, .int (jI n2)), (6, .int (jI y9)), (7, .int (jI w9))] → W p l e (jR 2 60) s m args below meth c H locs 0 0 Q (F0 m 19 ls []) := by
          intro fuel
          induction fuel with
          | zero =>
            intro w9 n2 hw h2 hfu
            exfalso; omega
          | succ fuel ihLI =>
            intro w9 n2 hw h2 hfu H locs ls hP hD hS hl
            have hcn := cn_bd (P := rwP mf x0 x1 y9) (a := 64 * (x0 / 64)) (b := 64 * w9) (by omega)
            refine jv_bipush hx hb (by decide) dX5_marked_19 ?_
            refine lv_iload hx hb dX5_marked_21 (lv_at hl 7 rfl) ?_
            refine jv_imul hx hb dX5_marked_23 ?_
            refine lv_iload_n hx hb dX5_marked_24 rfl (lv_at hl 3 rfl) ?_
            refine jv_icmp_ge (tgt := 120) hx hb ⟨by omega, by omega⟩ ⟨by omega, by omega⟩ dX5_marked_25 (by decide) (fun c25 => ?_) (fun c25 => ?_)
            · skip
              refine jv_iinc (lv2 := [(6, .int (jI (y9 + 1))), (0, .ref hm), (1, .int (jI x0)), (2, .int (jI y0)), (3, .int (jI x1)), (4, .int (jI y1)), (5, .int (jI n2)), (7, .int (jI w9))]) hx hb dX5_marked_120 hl (k := 6) rfl (by decide) rfl (fun ls hl => ?_)
              refine lv_goto (tgt := 6) hx hb dX5_marked_123 (by decide) ?_
              exact ihLO (y9 + 1) n2 (by omega) (by rw [cm_s hy.1, h2, rwP_e hxy.1 hxy.2.1 (by omega), h1]) (by omega) _ _ _ (hP.sub [0, 1] rfl) (hD.sub [0, 1] (by decide) rfl) hS (lv_sub hl [1, 2, 3, 4, 5, 6, 0] rfl)
            · skip
              have J54 : ∀ (lf9 : Int64), (∀ b : Nat, b < 64 → wb lf9 b = decide (x0 ≤ 64 * w9 + (b : Int))) → ∀ (H : Heap) (locs : List Loc) (ls : Array Slot), va_P D jcl [(hm, .inr (5, [.int (jI co), .int (jI ly), .int (jI nt), .ref (md 3), .int (jI ns), .ref (md 5), .ref (md 6), .ref (md 7), .int (jI nd), .ref (md 9), .ref (md 10), .ref (md 11), .int (jI np), .ref (md 13), .ref (md 14), .ref (md 15), .ref (md 16), .ref (md 17), .ref (md 18), .ref (md 19), .ref (md 20), .int (jI nq), .ref (md 22), .ref (md 23), .ref (md 24), .ref (md 25), .ref (md 26), .int (jI tq), .ref (md 28), .ref (md 29), .ref (md 30)])), ((md 29), .inl (g.2.1, 16000, .inr (.inl (aW mf))))] H → va_D A [(hm, .inr (5, [.int (jI co), .int (jI ly), .int (jI nt), .ref (md 3), .int (jI ns), .ref (md 5), .ref (md 6), .ref (md 7), .int (jI nd), .ref (md 9), .ref (md 10), .ref (md 11), .int (jI np), .ref (md 13), .ref (md 14), .ref (md 15), .ref (md 16), .ref (md 17), .ref (md 18), .ref (md 19), .ref (md 20), .int (jI nq), .ref (md 22), .ref (md 23), .ref (md 24), .ref (md 25), .ref (md 26), .int (jI tq), .ref (md 28), .ref (md 29), .ref (md 30)])), ((md 29), .inl (g.2.1, 16000, .inr (.inl (aW mf))))] → va_S A s.heap H locs → lv_has ls 12 [(0, .ref hm), (1, .int (jI x0)), (2, .int (jI y0)), (3, .int (jI x1)), (4, .int (jI y1)), (5, .int (jI n2)), (6, .int (jI y9)), (7, .int (jI w9))] → W p l e (jR 2 60) s m args below meth c H locs 0 0 Q (F0 m 54 ls [.long lf9]) := by
                intro lf9 hlf H locs ls hP hD hS hl
                refine lv_lstore (lv' := [(8, .long lf9), (0, .ref hm), (1, .int (jI x0)), (2, .int (jI y0)), (3, .int (jI x1)), (4, .int (jI y1)), (5, .int (jI n2)), (6, .int (jI y9)), (7, .int (jI w9))]) hx hb dX5_marked_54 hl (by decide) rfl (fun ls hl => ?_)
                have J85 : ∀ (rg9 : Int64), (∀ b : Nat, b < 64 → wb rg9 b = decide (64 * w9 + (b : Int) < x1)) → ∀ (H : Heap) (locs : List Loc) (ls : Array Slot), va_P D jcl [(hm, .inr (5, [.int (jI co), .int (jI ly), .int (jI nt), .ref (md 3), .int (jI ns), .ref (md 5), .ref (md 6), .ref (md 7), .int (jI nd), .ref (md 9), .ref (md 10), .ref (md 11), .int (jI np), .ref (md 13), .ref (md 14), .ref (md 15), .ref (md 16), .ref (md 17), .ref (md 18), .ref (md 19), .ref (md 20), .int (jI nq), .ref (md 22), .ref (md 23), .ref (md 24), .ref (md 25), .ref (md 26), .int (jI tq), .ref (md 28), .ref (md 29), .ref (md 30)])), ((md 29), .inl (g.2.1, 16000, .inr (.inl (aW mf))))] H → va_D A [(hm, .inr (5, [.int (jI co), .int (jI ly), .int (jI nt), .ref (md 3), .int (jI ns), .ref (md 5), .ref (md 6), .ref (md 7), .int (jI nd), .ref (md 9), .ref (md 10), .ref (md 11), .int (jI np), .ref (md 13), .ref (md 14), .ref (md 15), .ref (md 16), .ref (md 17), .ref (md 18), .ref (md 19), .ref (md 20), .int (jI nq), .ref (md 22), .ref (md 23), .ref (md 24), .ref (md 25), .ref (md 26), .int (jI tq), .ref (md 28), .ref (md 29), .ref (md 30)])), ((md 29), .inl (g.2.1, 16000, .inr (.inl (aW mf))))] → va_S A s.heap H locs → lv_has ls 12 [(0, .ref hm), (1, .int (jI x0)), (2, .int (jI y0)), (3, .int (jI x1)), (4, .int (jI y1)), (5, .int (jI n2)), (6, .int (jI y9)), (7, .int (jI w9)), (8, .long lf9)] → W p l e (jR 2 60) s m args below meth c H locs 0 0 Q (F0 m 85 ls [.long rg9]) := by
                  intro rg9 hrg H locs ls hP hD hS hl
                  refine lv_lstore (lv' := [(10, .long rg9), (0, .ref hm), (1, .int (jI x0)), (2, .int (jI y0)), (3, .int (jI x1)), (4, .int (jI y1)), (5, .int (jI n2)), (6, .int (jI y9)), (7, .int (jI w9)), (8, .long lf9)]) hx hb dX5_marked_85 hl (by decide) rfl (fun ls hl => ?_)
                  have hpr := pc_row (f := mf) (m := lf9 &&& rg9) (x0 := x0) (x1 := x1) (y := y9) (w := w9) (k := 16 * y9 + w9) rfl (fun b hb => by
                    rw [wb_and, hlf b hb, hrg b hb, Bool.eq_iff_iff]
                    simp only [Bool.and_eq_true, decide_eq_true_eq])
                  have hpq : cn (fun x => mk mf x y9 && decide (x0 ≤ x ∧ x < x1)) (64 * w9) (64 * w9 + 64) = cn (rwP mf x0 x1 y9) (64 * w9) (64 * w9 + 64) := rfl
                  refine lv_iload hx hb dX5_marked_87 (lv_at hl 6 rfl) ?_
                  refine lv_aload_n hx hb dX5_marked_89 rfl (lv_at hl 1 rfl) ?_
                  refine va_get (D := D) (ci := 5) (v := .ref (md 29)) (C := RX5) (T := TX5) (N := 31) hx hb hts inX5 hown hK hP 0 rfl rfl 29 (by decide) f74 (fun _ h9 => h9) rfl dX5_marked_90 ?_
                  refine jv_bipush hx hb (by decide) dX5_marked_93 ?_
                  refine lv_iload hx hb dX5_marked_95 (lv_at hl 7 rfl) ?_
                  refine jv_imul hx hb dX5_marked_97 ?_
                  refine lv_iload hx hb dX5_marked_98 (lv_at hl 8 rfl) ?_
                  refine jv_iadd hx hb dX5_marked_100 ?_
                  refine jv_wald hx hb hK hP 1 1 rfl rfl (i := ((16 * y9) + w9)) ⟨by omega, by omega⟩ (Nat.le_of_ble_eq_true rfl) dX5_marked_101 ?_
                  refine lv_lload hx hb dX5_marked_102 (lv_at hl 9 rfl) ?_
                  refine lv_land hx hb dX5_marked_104 ?_
                  refine lv_lload hx hb dX5_marked_105 (lv_at hl 0 rfl) ?_
                  refine lv_land hx hb dX5_marked_107 ?_
                  refine jc_Si (As := [.long (((mf ((16 * y9) + w9)) &&& lf9) &&& rg9)]) (rest := [.int (jI n2)]) (wq := [(hm, .inr (5, [.int (jI co), .int (jI ly), .int (jI nt), .ref (md 3), .int (jI ns), .ref (md 5), .ref (md 6), .ref (md 7), .int (jI nd), .ref (md 9), .ref (md 10), .ref (md 11), .int (jI np), .ref (md 13), .ref (md 14), .ref (md 15), .ref (md 16), .ref (md 17), .ref (md 18), .ref (md 19), .ref (md 20), .int (jI nq), .ref (md 22), .ref (md 23), .ref (md 24), .ref (md 25), .ref (md 26), .int (jI tq), .ref (md 28), .ref (md 29), .ref (md 30)])), ((md 29), .inl (g.2.1, 16000, .inr (.inl (aW mf))))]) ⟨hx, hb, hml, hown, hts⟩ (tX5_ones l D g (((mf ((16 * y9) + w9)) &&& lf9) &&& rg9) ) (va_cwS 1 hts gX5_marked_X5_ones rfl rfl rfl (by decide +kernel) ⟨Nat.le_of_ble_eq_true rfl, Nat.le_of_ble_eq_true rfl⟩) hK hP hD hS hA [] [0, 1] rfl rfl (by decide) (by decide) (by decide) rfl rfl hl.1 (Nat.le_of_ble_eq_true rfl) dX5_marked_108 ⟨Nat.le_of_ble_eq_true rfl, Nat.le_of_ble_eq_true rfl⟩ (fun on9 u H locs hu hP hD hS => ?_)
                  have hu : on9 = pcW (((mf ((16 * y9) + w9)) &&& lf9) &&& rg9) := hu
                  have hon := hu
                  have hP : va_P D jcl [(hm, .inr (5, [.int (jI co), .int (jI ly), .int (jI nt), .ref (md 3), .int (jI ns), .ref (md 5), .ref (md 6), .ref (md 7), .int (jI nd), .ref (md 9), .ref (md 10), .ref (md 11), .int (jI np), .ref (md 13), .ref (md 14), .ref (md 15), .ref (md 16), .ref (md 17), .ref (md 18), .ref (md 19), .ref (md 20), .int (jI nq), .ref (md 22), .ref (md 23), .ref (md 24), .ref (md 25), .ref (md 26), .int (jI tq), .ref (md 28), .ref (md 29), .ref (md 30)])), ((md 29), .inl (g.2.1, 16000, .inr (.inl (aW mf))))] H := hP
                  have hD : va_D A [(hm, .inr (5, [.int (jI co), .int (jI ly), .int (jI nt), .ref (md 3), .int (jI ns), .ref (md 5), .ref (md 6), .ref (md 7), .int (jI nd), .ref (md 9), .ref (md 10), .ref (md 11), .int (jI np), .ref (md 13), .ref (md 14), .ref (md 15), .ref (md 16), .ref (md 17), .ref (md 18), .ref (md 19), .ref (md 20), .int (jI nq), .ref (md 22), .ref (md 23), .ref (md 24), .ref (md 25), .ref (md 26), .int (jI tq), .ref (md 28), .ref (md 29), .ref (md 30)])), ((md 29), .inl (g.2.1, 16000, .inr (.inl (aW mf))))] := hD
                  have hop := pcW_bd ((mf (16 * y9 + w9) &&& lf9) &&& rg9)
                  have has : (mf (16 * y9 + w9) &&& lf9) &&& rg9 = mf (16 * y9 + w9) &&& (lf9 &&& rg9) := Int64.and_assoc _ _ _
                  rw [has] at hon hop
                  rw [hpr, hpq] at hon
                  refine jv_iadd hx hb dX5_marked_111 ?_
                  refine lv_istore (lv' := [(5, .int (jI (n2 + on9))), (10, .long rg9), (0, .ref hm), (1, .int (jI x0)), (2, .int (jI y0)), (3, .int (jI x1)), (4, .int (jI y1)), (6, .int (jI y9)), (7, .int (jI w9)), (8, .long lf9)]) hx hb dX5_marked_112 hl (by decide) rfl (fun ls hl => ?_)
                  refine jv_iinc (lv2 := [(7, .int (jI (w9 + 1))), (5, .int (jI (n2 + on9))), (10, .long rg9), (0, .ref hm), (1, .int (jI x0)), (2, .int (jI y0)), (3, .int (jI x1)), (4, .int (jI y1)), (6, .int (jI y9)), (8, .long lf9)]) hx hb dX5_marked_114 hl (k := 8) rfl (by decide) rfl (fun ls hl => ?_)
                  refine lv_goto (tgt := 19) hx hb dX5_marked_117 (by decide) ?_
                  exact ihLI (w9 + 1) (n2 + on9) (by omega) (by
                    rw [show 64 * (w9 + 1) = 64 * w9 + 64 by omega, cn_sp (P := rwP mf x0 x1 y9) (a := 64 * (x0 / 64)) (b := 64 * w9) (c := 64 * w9 + 64) (by omega) (by omega)]
                    omega) (by omega) _ _ _ (hP.sub [0, 1] rfl) (hD.sub [0, 1] (by decide) rfl) hS (lv_sub hl [3, 4, 5, 6, 7, 1, 8, 0] rfl)
                refine lv_iload_n hx hb dX5_marked_56 rfl (lv_at hl 4 rfl) ?_
                refine jv_bipush hx hb (by decide) dX5_marked_57 ?_
                refine lv_iload hx hb dX5_marked_59 (lv_at hl 8 rfl) ?_
                refine jv_imul hx hb dX5_marked_61 ?_
                refine jv_bipush hx hb (by decide) dX5_marked_62 ?_
                refine jv_iadd hx hb dX5_marked_64 ?_
                refine jv_icmp_ge (tgt := 82) hx hb ⟨by omega, by omega⟩ ⟨by omega, by omega⟩ dX5_marked_65 (by decide) (fun c65 => ?_) (fun c65 => ?_)
                · skip
                  refine jv_ldc2 (n := (-1)) hx hb (by decide) hown k94 dX5_marked_82 ?_
                  exact J85 (jL (-1)) (fun b hb => by
                    first
                    | (rw [wb_lt ⟨by omega, by omega⟩ hb]; exact decide_eq_decide.mpr (by omega))
                    | (rw [wb_m1 ⟨b, hb⟩]; exact (dec_t (by omega)).symm)) _ _ _ (hP.sub [0, 1] rfl) (hD.sub [0, 1] (by decide) rfl) hS (lv_sub hl [1, 2, 3, 4, 5, 6, 7, 8, 0] rfl)
                · skip
                  refine jv_lconst1 hx hb dX5_marked_68 ?_
                  refine lv_iload_n hx hb dX5_marked_69 rfl (lv_at hl 4 rfl) ?_
                  refine jv_bipush hx hb (by decide) dX5_marked_70 ?_
                  refine lv_iload hx hb dX5_marked_72 (lv_at hl 8 rfl) ?_
                  refine jv_imul hx hb dX5_marked_74 ?_
                  refine jv_isub hx hb dX5_marked_75 ?_
                  refine lv_lshl (v := (wSl (jL 1) (x1 - (64 * w9)))) hx hb dX5_marked_76 rfl ?_
                  refine jv_lconst1 hx hb dX5_marked_77 ?_
                  refine lv_lsub hx hb dX5_marked_78 ?_
                  refine lv_goto (tgt := 85) hx hb dX5_marked_79 (by decide) ?_
                  exact J85 ((wSl (jL 1) (x1 - (64 * w9))) - (jL 1)) (fun b hb => by
                    first
                    | (rw [wb_lt ⟨by omega, by omega⟩ hb]; exact decide_eq_decide.mpr (by omega))
                    | (rw [wb_m1 ⟨b, hb⟩]; exact (dec_t (by omega)).symm)) _ _ _ (hP.sub [0, 1] rfl) (hD.sub [0, 1] (by decide) rfl) hS (lv_sub hl [1, 2, 3, 4, 5, 6, 7, 8, 0] rfl)
              refine lv_iload_n hx hb dX5_marked_28 rfl (lv_at hl 1 rfl) ?_
              refine jv_bipush hx hb (by decide) dX5_marked_29 ?_
              refine lv_iload hx hb dX5_marked_31 (lv_at hl 7 rfl) ?_
              refine jv_imul hx hb dX5_marked_33 ?_
              refine jv_icmp_le (tgt := 51) hx hb ⟨by omega, by omega⟩ ⟨by omega, by omega⟩ dX5_marked_34 (by decide) (fun c34 => ?_) (fun c34 => ?_)
              · skip
                refine jv_ldc2 (n := (-1)) hx hb (by decide) hown k94 dX5_marked_51 ?_
                exact J54 (jL (-1)) (fun b hb => by
                  first
                  | (rw [wb_ge ⟨by omega, by omega⟩ hb]; exact decide_eq_decide.mpr (by omega))
                  | (rw [wb_m1 ⟨b, hb⟩]; exact (dec_t (by omega)).symm)) _ _ _ (hP.sub [0, 1] rfl) (hD.sub [0, 1] (by decide) rfl) hS (lv_sub hl [0, 1, 2, 3, 4, 5, 6, 7] rfl)
              · skip
                refine jv_ldc2 (n := (-1)) hx hb (by decide) hown k94 dX5_marked_37 ?_
                refine lv_iload_n hx hb dX5_marked_40 rfl (lv_at hl 1 rfl) ?_
                refine jv_bipush hx hb (by decide) dX5_marked_41 ?_
                refine lv_iload hx hb dX5_marked_43 (lv_at hl 7 rfl) ?_
                refine jv_imul hx hb dX5_marked_45 ?_
                refine jv_isub hx hb dX5_marked_46 ?_
                refine lv_lshl (v := (wSl (jL (-1)) (x0 - (64 * w9)))) hx hb dX5_marked_47 rfl ?_
                refine lv_goto (tgt := 54) hx hb dX5_marked_48 (by decide) ?_
                exact J54 (wSl (jL (-1)) (x0 - (64 * w9))) (fun b hb => by
                  first
                  | (rw [wb_ge ⟨by omega, by omega⟩ hb]; exact decide_eq_decide.mpr (by omega))
                  | (rw [wb_m1 ⟨b, hb⟩]; exact (dec_t (by omega)).symm)) _ _ _ (hP.sub [0, 1] rfl) (hD.sub [0, 1] (by decide) rfl) hS (lv_sub hl [0, 1, 2, 3, 4, 5, 6, 7] rfl)
        refine lv_iload_n hx hb dX5_marked_13 rfl (lv_at hl 1 rfl) ?_
        refine jv_bipush hx hb (by decide) dX5_marked_14 ?_
        refine jv_idivN hx hb ⟨by omega, by omega, by omega⟩ ⟨by omega, by omega, by omega⟩ dX5_marked_16 ?_
        refine lv_istore (lv' := [(7, .int (jI (x0 / 64))), (0, .ref hm), (1, .int (jI x0)), (2, .int (jI y0)), (3, .int (jI x1)), (4, .int (jI y1)), (5, .int (jI nn)), (6, .int (jI y9))]) hx hb dX5_marked_17 hl (by decide) rfl (fun ls hl => ?_)
        exact LI (((17 : Int) - (x0 / 64)).toNat + 1) (x0 / 64) nn (by omega) (by rw [cn_0 (Int.le_refl _)]; omega) (by omega) _ _ _ (hP.sub [0, 1] rfl) (hD.sub [0, 1] (by decide) rfl) hS (lv_sub hl [1, 2, 3, 4, 5, 6, 7, 0] rfl)
  refine jv_iconst hx hb dX5_marked_0 ?_
  refine lv_istore (lv' := [(5, .int (jI 0)), (0, .ref hm), (1, .int (jI x0)), (2, .int (jI y0)), (3, .int (jI x1)), (4, .int (jI y1))]) hx hb dX5_marked_1 hl (by decide) rfl (fun ls hl => ?_)
  refine lv_iload_n hx hb dX5_marked_3 rfl (lv_at hl 3 rfl) ?_
  refine lv_istore (lv' := [(6, .int (jI y0)), (5, .int (jI 0)), (0, .ref hm), (1, .int (jI x0)), (2, .int (jI y0)), (3, .int (jI x1)), (4, .int (jI y1))]) hx hb dX5_marked_4 hl (by decide) rfl (fun ls hl => ?_)
  exact LO ((y1 + 1 - y0).toNat + 1) y0 0 (by omega) ((cm_0 (Int.le_refl y0)).symm) (by omega) _ _ _ (hP.sub [0, 1] rfl) (hD.sub [0, 1] (by decide) rfl) hS (lv_sub hl [2, 3, 4, 5, 6, 1, 0] rfl)
