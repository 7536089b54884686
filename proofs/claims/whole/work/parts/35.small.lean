set_option maxHeartbeats 4000000 in
set_option maxRecDepth 100000 in
/-- Math.floorDiv, the divisor being above 0 -/
theorem tJ9_floorDiv (l : Launch) (D : va_G) (g : ClassId × ClassId × ClassId) (a : Int) (b : Int) (hfa : rI a) (hfb : 0 < b ∧ rI b) : jMi l D g yJ9_floorDiv_7cf53 wsJ9_floorDiv_7cf53 1 22 [.int (jI a), .int (jI b)] [] (S := Unit) (fun z _ => z = a / b) (fun _ => []) := by
  refine jMi_ofF (cc := cJ9_floorDiv_7cf53) (maxL := 3) (by decide +kernel) rfl (Nat.le_of_ble_eq_true rfl) ?_
  intro p e s m args below meth c Q A hx hb hml hts hown hK hA hret ls hl hP hD
  have hS : va_S A s.heap s.heap [] := va_S.rf
  have hown : s.vm.findClass RJ9 = some m.cls := hown
  have hl : lv_has ls 3 [(0, .int (jI a)), (1, .int (jI b))] := hl
  have hq9 := tdiv_bd hfa hfb.1
  have hq8 := tdiv_mb hfa hfb.1
  refine lv_iload_n hx hb dJ9_floorDiv_7cf53_0 rfl (lv_at hl 0 rfl) ?_
  refine lv_iload_n hx hb dJ9_floorDiv_7cf53_1 rfl (lv_at hl 1 rfl) ?_
  refine jv_idiv hx hb ⟨by omega, by omega⟩ ⟨by omega, by omega⟩ (by omega) dJ9_floorDiv_7cf53_2 ?_
  refine jv_nm (fun q9 eq9 => ?_)
  refine lv_istore_n (lv' := [(2, .int (jI q9)), (0, .int (jI a)), (1, .int (jI b))]) hx hb dJ9_floorDiv_7cf53_3 rfl hl (by decide) rfl (fun ls hl => ?_)
  refine lv_iload_n hx hb dJ9_floorDiv_7cf53_4 rfl (lv_at hl 1 rfl) ?_
  refine lv_iload_n hx hb dJ9_floorDiv_7cf53_5 rfl (lv_at hl 2 rfl) ?_
  refine lv_ixor hx hb dJ9_floorDiv_7cf53_6 ?_
  refine jx_if_ge (x := ((jI a) ^^^ (jI b))) (tgt := 21) hx hb dJ9_floorDiv_7cf53_7 (by decide) (fun c7 => ?_) (fun c7 => ?_)
  · skip
    refine lv_iload_n hx hb dJ9_floorDiv_7cf53_21 rfl (lv_at hl 0 rfl) ?_
    exact hret q9 () _ _ _ _ (by
          rw [eq9]
          first
          | (have c7 : ¬ a < 0 := fun q => c7 ((xor_sg hfa hfb).mpr q)
             rw [Int.tdiv_eq_ediv_of_nonneg (by omega)])
          | (try rw [eq9] at c14
             exact fdiv_eq c14 hfb.1)) (hP.sub [] rfl) (hD.sub [] (by decide) rfl) hS dJ9_floorDiv_7cf53_22
  · skip
    refine lv_iload_n hx hb dJ9_floorDiv_7cf53_10 rfl (lv_at hl 0 rfl) ?_
    refine lv_iload_n hx hb dJ9_floorDiv_7cf53_11 rfl (lv_at hl 2 rfl) ?_
    rw [eq9]
    refine jv_imul hx hb dJ9_floorDiv_7cf53_12 ?_
    refine lv_iload_n hx hb dJ9_floorDiv_7cf53_13 rfl (lv_at hl 1 rfl) ?_
    refine jv_icmp_eq (tgt := 21) hx hb ⟨by omega, by omega⟩ ⟨by omega, by omega⟩ dJ9_floorDiv_7cf53_14 (by decide) (fun c14 => ?_) (fun c14 => ?_)
    · skip
      refine lv_iload_n hx hb dJ9_floorDiv_7cf53_21 rfl (lv_at hl 0 rfl) ?_
      exact hret q9 () _ _ _ _ (by
            rw [eq9]
            first
            | (have c7 : ¬ a < 0 := fun q => c7 ((xor_sg hfa hfb).mpr q)
               rw [Int.tdiv_eq_ediv_of_nonneg (by omega)])
            | (try rw [eq9] at c14
               exact fdiv_eq c14 hfb.1)) (hP.sub [] rfl) (hD.sub [] (by decide) rfl) hS dJ9_floorDiv_7cf53_22
    · skip
      refine lv_iload_n hx hb dJ9_floorDiv_7cf53_17 rfl (lv_at hl 0 rfl) ?_
      refine jv_iconst hx hb dJ9_floorDiv_7cf53_18 ?_
      refine jv_isub hx hb dJ9_floorDiv_7cf53_19 ?_
      exact hret (q9 - 1) () _ _ _ _ (by
            have c7 := (xor_sg hfa hfb).mp c7
            rw [eq9]
            try rw [eq9] at c14
            exact fdiv_lo c7 hfb.1 c14) (hP.sub [] rfl) (hD.sub [] (by decide) rfl) hS dJ9_floorDiv_7cf53_20

set_option maxHeartbeats 4000000 in
set_option maxRecDepth 100000 in
/-- Integer.numberOfTrailingZeros -/
theorem tJ6_ntz (l : Launch) (D : va_G) (g : ClassId × ClassId × ClassId) (x : Int32) (hx0 : x ≠ jI 0) : jMi l D g yJ6_numberOfTrailingZeros_0f7a4 wsJ6_numberOfTrailingZeros_0f7a4 1 21 [.int x] [] (S := Unit) (fun z _ => (0 ≤ z ∧ z < 32) ∧ xb x z.toNat = true ∧ ∀ b : Nat, (b : Int) < z → xb x b = false) (fun _ => []) := by
  refine jMi_ofF (cc := cJ6_numberOfTrailingZeros_0f7a4) (maxL := 2) (by decide +kernel) rfl (Nat.le_of_ble_eq_true rfl) ?_
  intro p e s m args below meth c Q A hx hb hml hts hown hK hA hret ls hl hP hD
  have hS : va_S A s.heap s.heap [] := va_S.rf
  have hown : s.vm.findClass RJ6 = some m.cls := hown
  have k264 := hts (.constant RJ6 264 (65536)) (by decide +kernel)
  have hl : lv_has ls 2 [(0, .int x)] := hl
  obtain ⟨k9, hk9, hkb, hkl, hke⟩ := low_x hx0
  have hpw := pw_pos hk9
  refine lv_iload_n hx hb dJ6_numberOfTrailingZeros_0f7a4_0 rfl (lv_at hl 0 rfl) ?_
  refine jv_iconst hx hb dJ6_numberOfTrailingZeros_0f7a4_1 ?_
  refine lv_ixor hx hb dJ6_numberOfTrailingZeros_0f7a4_2 ?_
  refine lv_iload_n hx hb dJ6_numberOfTrailingZeros_0f7a4_3 rfl (lv_at hl 0 rfl) ?_
  refine jv_iconst hx hb dJ6_numberOfTrailingZeros_0f7a4_4 ?_
  refine lv_isub hx hb dJ6_numberOfTrailingZeros_0f7a4_5 ?_
  refine lv_iand hx hb dJ6_numberOfTrailingZeros_0f7a4_6 ?_
  refine jx_top hke ?_
  refine lv_istore_n (lv' := [(0, .int (jI ((2 : Int) ^ k9 - 1)))]) hx hb dJ6_numberOfTrailingZeros_0f7a4_7 rfl hl (by decide) rfl (fun ls hl => ?_)
  refine lv_iload_n hx hb dJ6_numberOfTrailingZeros_0f7a4_8 rfl (lv_at hl 0 rfl) ?_
  refine jv_if_gt (tgt := 17) hx hb ⟨by omega, by omega⟩ dJ6_numberOfTrailingZeros_0f7a4_9 (by decide) (fun c9 => ?_) (fun c9 => ?_)
  · skip
    have hz := nz_0 (k := k9) (by omega) (by omega)
    have hzb := nz_bd (by decide) hz
    have L74 : ∀ (n9 : Int) (i9 : Int), (nz 2 k9 n9 i9) → ∀ (H : Heap) (locs : List Loc) (ls : Array Slot), va_P D jcl [] H → va_D A [] → va_S A s.heap H locs → lv_has ls 2 [(0, .int (jI i9)), (1, .int (jI n9))] → W p l e (jR 1 21) s m args below meth c H locs 0 0 Q (F0 m 74 ls []) := by
      intro n9 i9 hz H locs ls hP hD hS hl
      have hzb := nz_bd (by decide) hz
      refine lv_iload_n hx hb dJ6_numberOfTrailingZeros_0f7a4_74 rfl (lv_at hl 1 rfl) ?_
      refine lv_iload_n hx hb dJ6_numberOfTrailingZeros_0f7a4_75 rfl (lv_at hl 0 rfl) ?_
      refine jv_iconst hx hb dJ6_numberOfTrailingZeros_0f7a4_76 ?_
      refine jv_iushrN hx hb 1 2 rfl ⟨by omega, by omega, by omega⟩ (by decide) (by decide) dJ6_numberOfTrailingZeros_0f7a4_77 ?_
      refine jv_iadd hx hb dJ6_numberOfTrailingZeros_0f7a4_78 ?_
      exact hret (n9 + (i9 / 2)) () _ _ _ _ (by
            have e9 := nz_e hz
            rw [e9]
            exact ⟨by omega, hkb, fun b hb => hkl b (by omega)⟩) (hP.sub [] rfl) (hD.sub [] (by decide) rfl) hS dJ6_numberOfTrailingZeros_0f7a4_79
    have L62 : ∀ (n9 : Int) (i9 : Int), (nz 4 k9 n9 i9) → ∀ (H : Heap) (locs : List Loc) (ls : Array Slot), va_P D jcl [] H → va_D A [] → va_S A s.heap H locs → lv_has ls 2 [(0, .int (jI i9)), (1, .int (jI n9))] → W p l e (jR 1 21) s m args below meth c H locs 0 0 Q (F0 m 62 ls []) := by
      intro n9 i9 hz H locs ls hP hD hS hl
      have hzb := nz_bd (by decide) hz
      refine lv_iload_n hx hb dJ6_numberOfTrailingZeros_0f7a4_62 rfl (lv_at hl 0 rfl) ?_
      refine jv_iconst hx hb dJ6_numberOfTrailingZeros_0f7a4_63 ?_
      refine jv_icmp_le (tgt := 74) hx hb ⟨by omega, by omega⟩ ⟨by decide, by decide⟩ dJ6_numberOfTrailingZeros_0f7a4_64 (by decide) (fun c64 => ?_) (fun c64 => ?_)
      · skip
        exact L74 n9 i9 (by
                      first
                      | exact nz_hi hz 1 2 4 (by decide) rfl rfl (by decide) (by decide) c64
                      | exact nz_lo hz 1 2 4 (by decide) rfl rfl (by decide) c64) _ _ _ (hP.sub [] rfl) (hD.sub [] (by decide) rfl) hS (lv_sub hl [0, 1] rfl)
      · skip
        refine jv_iinc (lv2 := [(1, .int (jI (n9 + 2))), (0, .int (jI i9))]) hx hb dJ6_numberOfTrailingZeros_0f7a4_67 hl (k := 1) rfl (by decide) rfl (fun ls hl => ?_)
        refine lv_iload_n hx hb dJ6_numberOfTrailingZeros_0f7a4_70 rfl (lv_at hl 1 rfl) ?_
        refine jv_iconst hx hb dJ6_numberOfTrailingZeros_0f7a4_71 ?_
        refine jv_iushrN hx hb 2 4 rfl ⟨by omega, by omega, by omega⟩ (by decide) (by decide) dJ6_numberOfTrailingZeros_0f7a4_72 ?_
        refine lv_istore_n (lv' := [(0, .int (jI (i9 / 4))), (1, .int (jI (n9 + 2)))]) hx hb dJ6_numberOfTrailingZeros_0f7a4_73 rfl hl (by decide) rfl (fun ls hl => ?_)
        exact L74 (n9 + 2) (i9 / 4) (by
                      first
                      | exact nz_hi hz 1 2 4 (by decide) rfl rfl (by decide) (by decide) c64
                      | exact nz_lo hz 1 2 4 (by decide) rfl rfl (by decide) c64) _ _ _ (hP.sub [] rfl) (hD.sub [] (by decide) rfl) hS (lv_sub hl [0, 1] rfl)
    have L49 : ∀ (n9 : Int) (i9 : Int), (nz 8 k9 n9 i9) → ∀ (H : Heap) (locs : List Loc) (ls : Array Slot), va_P D jcl [] H → va_D A [] → va_S A s.heap H locs → lv_has ls 2 [(0, .int (jI i9)), (1, .int (jI n9))] → W p l e (jR 1 21) s m args below meth c H locs 0 0 Q (F0 m 49 ls []) := by
      intro n9 i9 hz H locs ls hP hD hS hl
      have hzb := nz_bd (by decide) hz
      refine lv_iload_n hx hb dJ6_numberOfTrailingZeros_0f7a4_49 rfl (lv_at hl 0 rfl) ?_
      refine jv_bipush hx hb (by decide) dJ6_numberOfTrailingZeros_0f7a4_50 ?_
      refine jv_icmp_le (tgt := 62) hx hb ⟨by omega, by omega⟩ ⟨by decide, by decide⟩ dJ6_numberOfTrailingZeros_0f7a4_52 (by decide) (fun c52 => ?_) (fun c52 => ?_)
      · skip
        exact L62 n9 i9 (by
                      first
                      | exact nz_hi hz 2 4 16 (by decide) rfl rfl (by decide) (by decide) c52
                      | exact nz_lo hz 2 4 16 (by decide) rfl rfl (by decide) c52) _ _ _ (hP.sub [] rfl) (hD.sub [] (by decide) rfl) hS (lv_sub hl [0, 1] rfl)
      · skip
        refine jv_iinc (lv2 := [(1, .int (jI (n9 + 4))), (0, .int (jI i9))]) hx hb dJ6_numberOfTrailingZeros_0f7a4_55 hl (k := 1) rfl (by decide) rfl (fun ls hl => ?_)
        refine lv_iload_n hx hb dJ6_numberOfTrailingZeros_0f7a4_58 rfl (lv_at hl 1 rfl) ?_
        refine jv_iconst hx hb dJ6_numberOfTrailingZeros_0f7a4_59 ?_
        refine jv_iushrN hx hb 4 16 rfl ⟨by omega, by omega, by omega⟩ (by decide) (by decide) dJ6_numberOfTrailingZeros_0f7a4_60 ?_
        refine lv_istore_n (lv' := [(0, .int (jI (i9 / 16))), (1, .int (jI (n9 + 4)))]) hx hb dJ6_numberOfTrailingZeros_0f7a4_61 rfl hl (by decide) rfl (fun ls hl => ?_)
        exact L62 (n9 + 4) (i9 / 16) (by
                      first
                      | exact nz_hi hz 2 4 16 (by decide) rfl rfl (by decide) (by decide) c52
                      | exact nz_lo hz 2 4 16 (by decide) rfl rfl (by decide) c52) _ _ _ (hP.sub [] rfl) (hD.sub [] (by decide) rfl) hS (lv_sub hl [0, 1] rfl)
    have L34 : ∀ (n9 : Int) (i9 : Int), (nz 16 k9 n9 i9) → ∀ (H : Heap) (locs : List Loc) (ls : Array Slot), va_P D jcl [] H → va_D A [] → va_S A s.heap H locs → lv_has ls 2 [(0, .int (jI i9)), (1, .int (jI n9))] → W p l e (jR 1 21) s m args below meth c H locs 0 0 Q (F0 m 34 ls []) := by
      intro n9 i9 hz H locs ls hP hD hS hl
      have hzb := nz_bd (by decide) hz
      refine lv_iload_n hx hb dJ6_numberOfTrailingZeros_0f7a4_34 rfl (lv_at hl 0 rfl) ?_
      refine jv_sipush hx hb (by decide) dJ6_numberOfTrailingZeros_0f7a4_35 ?_
      refine jv_icmp_le (tgt := 49) hx hb ⟨by omega, by omega⟩ ⟨by decide, by decide⟩ dJ6_numberOfTrailingZeros_0f7a4_38 (by decide) (fun c38 => ?_) (fun c38 => ?_)
      · skip
        exact L49 n9 i9 (by
                      first
                      | exact nz_hi hz 3 8 256 (by decide) rfl rfl (by decide) (by decide) c38
                      | exact nz_lo hz 3 8 256 (by decide) rfl rfl (by decide) c38) _ _ _ (hP.sub [] rfl) (hD.sub [] (by decide) rfl) hS (lv_sub hl [0, 1] rfl)
      · skip
        refine jv_iinc (lv2 := [(1, .int (jI (n9 + 8))), (0, .int (jI i9))]) hx hb dJ6_numberOfTrailingZeros_0f7a4_41 hl (k := 1) rfl (by decide) rfl (fun ls hl => ?_)
        refine lv_iload_n hx hb dJ6_numberOfTrailingZeros_0f7a4_44 rfl (lv_at hl 1 rfl) ?_
        refine jv_bipush hx hb (by decide) dJ6_numberOfTrailingZeros_0f7a4_45 ?_
        refine jv_iushrN hx hb 8 256 rfl ⟨by omega, by omega, by omega⟩ (by decide) (by decide) dJ6_numberOfTrailingZeros_0f7a4_47 ?_
        refine lv_istore_n (lv' := [(0, .int (jI (i9 / 256))), (1, .int (jI (n9 + 8)))]) hx hb dJ6_numberOfTrailingZeros_0f7a4_48 rfl hl (by decide) rfl (fun ls hl => ?_)
        exact L49 (n9 + 8) (i9 / 256) (by
                      first
                      | exact nz_hi hz 3 8 256 (by decide) rfl rfl (by decide) (by decide) c38
                      | exact nz_lo hz 3 8 256 (by decide) rfl rfl (by decide) c38) _ _ _ (hP.sub [] rfl) (hD.sub [] (by decide) rfl) hS (lv_sub hl [0, 1] rfl)
    refine jv_iconst hx hb dJ6_numberOfTrailingZeros_0f7a4_17 ?_
    refine lv_istore_n (lv' := [(1, .int (jI 1)), (0, .int (jI ((2 : Int) ^ k9 - 1)))]) hx hb dJ6_numberOfTrailingZeros_0f7a4_18 rfl hl (by decide) rfl (fun ls hl => ?_)
    refine lv_iload_n hx hb dJ6_numberOfTrailingZeros_0f7a4_19 rfl (lv_at hl 1 rfl) ?_
    refine lv_ldcw hx hb hown k264 dJ6_numberOfTrailingZeros_0f7a4_20 ?_
    refine jx_top (y := jI 65536) (by decide) ?_
    refine jv_icmp_le (tgt := 34) hx hb ⟨by omega, by omega⟩ ⟨by decide, by decide⟩ dJ6_numberOfTrailingZeros_0f7a4_23 (by decide) (fun c23 => ?_) (fun c23 => ?_)
    · skip
      exact L34 1 ((2 : Int) ^ k9 - 1) (by
                    first
                    | exact nz_hi hz 4 16 65536 (by decide) rfl rfl (by decide) (by decide) c23
                    | exact nz_lo hz 4 16 65536 (by decide) rfl rfl (by decide) c23) _ _ _ (hP.sub [] rfl) (hD.sub [] (by decide) rfl) hS (lv_sub hl [1, 0] rfl)
    · skip
      refine jv_iinc (lv2 := [(1, .int (jI (1 + 16))), (0, .int (jI ((2 : Int) ^ k9 - 1)))]) hx hb dJ6_numberOfTrailingZeros_0f7a4_26 hl (k := 0) rfl (by decide) rfl (fun ls hl => ?_)
      refine lv_iload_n hx hb dJ6_numberOfTrailingZeros_0f7a4_29 rfl (lv_at hl 1 rfl) ?_
      refine jv_bipush hx hb (by decide) dJ6_numberOfTrailingZeros_0f7a4_30 ?_
      refine jv_iushrN hx hb 16 65536 rfl ⟨by omega, by omega, by omega⟩ (by decide) (by decide) dJ6_numberOfTrailingZeros_0f7a4_32 ?_
      refine lv_istore_n (lv' := [(0, .int (jI (((2 : Int) ^ k9 - 1) / 65536))), (1, .int (jI (1 + 16)))]) hx hb dJ6_numberOfTrailingZeros_0f7a4_33 rfl hl (by decide) rfl (fun ls hl => ?_)
      exact L34 (1 + 16) (((2 : Int) ^ k9 - 1) / 65536) (by
                    first
                    | exact nz_hi hz 4 16 65536 (by decide) rfl rfl (by decide) (by decide) c23
                    | exact nz_lo hz 4 16 65536 (by decide) rfl rfl (by decide) c23) _ _ _ (hP.sub [] rfl) (hD.sub [] (by decide) rfl) hS (lv_sub hl [0, 1] rfl)
  · skip
    refine lv_iload_n hx hb dJ6_numberOfTrailingZeros_0f7a4_12 rfl (lv_at hl 0 rfl) ?_
    refine jv_bipush hx hb (by decide) dJ6_numberOfTrailingZeros_0f7a4_13 ?_
    refine lv_iand hx hb dJ6_numberOfTrailingZeros_0f7a4_15 ?_
    refine jx_top (y := jI 0) (by rw [show (2 : Int) ^ k9 - 1 = 0 by omega]; decide) ?_
    exact hret 0 () _ _ _ _ (by
          have e9 : k9 = 0 := hpw.2.2.mpr c9
          subst e9
          exact ⟨by omega, hkb, fun b hb => by omega⟩) (hP.sub [] rfl) (hD.sub [] (by decide) rfl) hS dJ6_numberOfTrailingZeros_0f7a4_16

set_option maxHeartbeats 4000000 in
set_option maxRecDepth 100000 in
/-- Long.numberOfTrailingZeros -/
theorem tJ13_ntz (l : Launch) (D : va_G) (g : ClassId × ClassId × ClassId) (v : Int64) (hv0 : v ≠ jL 0) : jMi l D g yJ13_numberOfTrailingZeros_95d88 wsJ13_numberOfTrailingZeros_95d88 2 61 [.long v] [] (S := Unit) (fun z _ => (0 ≤ z ∧ z < 64) ∧ wb v z.toNat = true ∧ ∀ b : Nat, (b : Int) < z → wb v b = false) (fun _ => []) := by
  refine jMi_ofF (cc := cJ13_numberOfTrailingZeros_95d88) (maxL := 3) (by decide +kernel) rfl (Nat.le_of_ble_eq_true rfl) ?_
  intro p e s m args below meth c Q A hx hb hml hts hown hK hA hret ls hl hP hD
  have hS : va_S A s.heap s.heap [] := va_S.rf
  have hown : s.vm.findClass RJ13 = some m.cls := hown
  have hl : lv_has ls 3 [(0, .long v)] := hl
  refine lv_lload_n hx hb dJ13_numberOfTrailingZeros_95d88_0 rfl (lv_at hl 0 rfl) ?_
  refine lv_l2i (v := (v).toInt32) hx hb dJ13_numberOfTrailingZeros_95d88_1 rfl ?_
  refine lv_istore_n (lv' := [(2, .int ((v).toInt32)), (0, .long v)]) hx hb dJ13_numberOfTrailingZeros_95d88_2 rfl hl (by decide) rfl (fun ls hl => ?_)
  refine lv_iload_n hx hb dJ13_numberOfTrailingZeros_95d88_3 rfl (lv_at hl 0 rfl) ?_
  refine jx_if_ne (x := (v).toInt32) (tgt := 21) hx hb dJ13_numberOfTrailingZeros_95d88_4 (by decide) (fun c4 => ?_) (fun c4 => ?_)
  · skip
    refine lv_iload_n hx hb dJ13_numberOfTrailingZeros_95d88_21 rfl (lv_at hl 0 rfl) ?_
    refine jc_Si (As := [.int ((v).toInt32)]) (rest := []) (wq := []) ⟨hx, hb, hml, hown, hts⟩ (tJ6_ntz l D g ((v).toInt32) (c4)) (va_cwS 1 hts gJ13_numberOfTrailingZeros_95d88_J6_numberOfTrailingZeros_0f7a4 rfl rfl rfl (by decide +kernel) ⟨Nat.le_of_ble_eq_true rfl, Nat.le_of_ble_eq_true rfl⟩) hK hP hD hS hA [] [] rfl rfl (by decide) (by decide) (by decide) rfl rfl hl.1 (Nat.le_of_ble_eq_true rfl) dJ13_numberOfTrailingZeros_95d88_22 ⟨Nat.le_refl 0, Nat.le_refl 0⟩ (fun z9 u H locs hu hP hD hS => ?_)
    have hu : (0 ≤ z9 ∧ z9 < 32) ∧ xb ((v).toInt32) z9.toNat = true ∧ ∀ b : Nat, (b : Int) < z9 → xb ((v).toInt32) b = false := hu
    obtain ⟨h1, h2, h3⟩ := hu
    have hP : va_P D jcl [] H := hP
    have hD : va_D A [] := hD
    exact hret z9 () _ _ _ _ (by
            rw [xb_lo v (by omega)] at h2
            exact ⟨by omega, h2, fun b hb => by rw [← xb_lo v (by omega)]; exact h3 b hb⟩) (hP.sub [] rfl) (hD.sub [] (by decide) rfl) hS dJ13_numberOfTrailingZeros_95d88_25
  · skip
    have hlow : ∀ b : Nat, b < 32 → wb v b = false := fun b hb => by rw [← xb_lo v hb, c4]; exact xb_0 b
    have hn9 : (wSu v 32).toInt32 ≠ jI 0 := fun q => by
            obtain ⟨b, hb, hb2⟩ := wb_nz hv0
            rcases Nat.lt_or_ge b 32 with r | r
            · rw [hlow b r] at hb2; exact Bool.noConfusion hb2
            · have := xb_hi v (b := b - 32) (by omega)
              rw [q, xb_0, show 32 + (b - 32) = b by omega, hb2] at this
              exact Bool.noConfusion this
    refine jv_bipush hx hb (by decide) dJ13_numberOfTrailingZeros_95d88_7 ?_
    refine lv_lload_n hx hb dJ13_numberOfTrailingZeros_95d88_9 rfl (lv_at hl 1 rfl) ?_
    refine jv_bipush hx hb (by decide) dJ13_numberOfTrailingZeros_95d88_10 ?_
    refine lv_lushr (v := (wSu v 32)) hx hb dJ13_numberOfTrailingZeros_95d88_12 rfl ?_
    refine lv_l2i (v := ((wSu v 32)).toInt32) hx hb dJ13_numberOfTrailingZeros_95d88_13 rfl ?_
    refine jc_Si (As := [.int (((wSu v 32)).toInt32)]) (rest := [.int (jI 32)]) (wq := []) ⟨hx, hb, hml, hown, hts⟩ (tJ6_ntz l D g (((wSu v 32)).toInt32) (hn9)) (va_cwS 1 hts gJ13_numberOfTrailingZeros_95d88_J6_numberOfTrailingZeros_0f7a4 rfl rfl rfl (by decide +kernel) ⟨Nat.le_of_ble_eq_true rfl, Nat.le_of_ble_eq_true rfl⟩) hK hP hD hS hA [] [] rfl rfl (by decide) (by decide) (by decide) rfl rfl hl.1 (Nat.le_of_ble_eq_true rfl) dJ13_numberOfTrailingZeros_95d88_14 ⟨Nat.le_refl 0, Nat.le_refl 0⟩ (fun z9 u H locs hu hP hD hS => ?_)
    have hu : (0 ≤ z9 ∧ z9 < 32) ∧ xb (((wSu v 32)).toInt32) z9.toNat = true ∧ ∀ b : Nat, (b : Int) < z9 → xb (((wSu v 32)).toInt32) b = false := hu
    obtain ⟨h1, h2, h3⟩ := hu
    have hP : va_P D jcl [] H := hP
    have hD : va_D A [] := hD
    refine jv_iadd hx hb dJ13_numberOfTrailingZeros_95d88_17 ?_
    refine lv_goto (tgt := 25) hx hb dJ13_numberOfTrailingZeros_95d88_18 (by decide) ?_
    exact hret (32 + z9) () _ _ _ _ (by
            rw [xb_hi v (by omega)] at h2
            refine ⟨by omega, by rw [show (32 + z9).toNat = 32 + z9.toNat by omega]; exact h2, fun b hb => ?_⟩
            rcases Nat.lt_or_ge b 32 with r | r
            · exact hlow b r
            · have h4 := h3 (b - 32) (by omega)
              rw [xb_hi v (by omega), show 32 + (b - 32) = b by omega] at h4
              exact h4) (hP.sub [] rfl) (hD.sub [] (by decide) rfl) hS dJ13_numberOfTrailingZeros_95d88_25

set_option maxHeartbeats 4000000 in
set_option maxRecDepth 100000 in
/-- Sites.firstTouching -/
theorem tX3_firstTouching (l : Launch) (D : va_G) (g : ClassId × ClassId × ClassId) (st9 : Int) (gr : Int) (hst : -100000 ≤ st9 ∧ st9 ≤ 100000 ∧ -100000 ≤ gr ∧ gr ≤ 100000) : jMi l D g yX3_firstTouching wsX3_firstTouching 1 21 [.int (jI st9), .int (jI gr)] [] (S := Unit) (fun z _ => z = max 2 (st9 - 4 - gr + 1)) (fun _ => []) := by
  refine jMi_of (cc := cX3_firstTouching) (maxL := 2) (by decide) rfl (Nat.le_of_ble_eq_true rfl) ?_
  intro p e s m args below meth c Q A hx hb hml hts hown hK hA hret ls hl hP hD
  have hS : va_S A s.heap s.heap [] := va_S.rf
  have hown : s.vm.findClass RX3 = some m.cls := hown
  have m60 := hts (.methodLink RX3 60 Lib.Math.max.name) (by decide +kernel)
  have s60 := hts (.static Lib.Math.max.name) (by decide +kernel)
  have c60 := hts (.code Lib.Math.max.name Lib.Math.max.code 2 (some .int)) (by decide +kernel)
  have iM := hts (.initialized "java/lang/Math") (by decide +kernel)
  have hl : lv_has ls 2 [(0, .int (jI st9)), (1, .int (jI gr))] := hl
  refine jv_iconst hx hb dX3_firstTouching_0 ?_
  refine lv_iload_n hx hb dX3_firstTouching_1 rfl (lv_at hl 0 rfl) ?_
  refine jv_iconst hx hb dX3_firstTouching_2 ?_
  refine jv_isub hx hb dX3_firstTouching_3 ?_
  refine lv_iload_n hx hb dX3_firstTouching_4 rfl (lv_at hl 1 rfl) ?_
  refine jv_isub hx hb dX3_firstTouching_5 ?_
  refine jv_iconst hx hb dX3_firstTouching_6 ?_
  refine jv_iadd hx hb dX3_firstTouching_7 ?_
  refine jv_max hx hb (hml.trans hl.1.symm) hown m60 s60 iM c60 (Nat.le_of_ble_eq_true rfl) (Nat.le_of_ble_eq_true rfl) (Nat.le_refl 0) (Nat.le_refl 0) ⟨by decide, by decide⟩ ⟨by omega, by omega⟩ dX3_firstTouching_8 (fun x_1 ex_1 => ?_)
  exact hret x_1 () _ _ _ _ (by omega) (hP.sub [] rfl) (hD.sub [] (by decide) rfl) hS dX3_firstTouching_11

set_option maxHeartbeats 4000000 in
set_option maxRecDepth 100000 in
/-- Sites.lastTouching -/
theorem tX3_lastTouching (l : Launch) (D : va_G) (g : ClassId × ClassId × ClassId) (st9 : Int) (gr : Int) (hst : -100000 ≤ st9 ∧ st9 ≤ 100000 ∧ -100000 ≤ gr ∧ gr ≤ 100000) : jMi l D g yX3_lastTouching wsX3_lastTouching 1 21 [.int (jI st9), .int (jI gr)] [] (S := Unit) (fun z _ => z = min 994 (st9 + gr - 1)) (fun _ => []) := by
  refine jMi_of (cc := cX3_lastTouching) (maxL := 2) (by decide) rfl (Nat.le_of_ble_eq_true rfl) ?_
  intro p e s m args below meth c Q A hx hb hml hts hown hK hA hret ls hl hP hD
  have hS : va_S A s.heap s.heap [] := va_S.rf
  have hown : s.vm.findClass RX3 = some m.cls := hown
  have m65 := hts (.methodLink RX3 65 Lib.Math.min.name) (by decide +kernel)
  have s65 := hts (.static Lib.Math.min.name) (by decide +kernel)
  have c65 := hts (.code Lib.Math.min.name Lib.Math.min.code 2 (some .int)) (by decide +kernel)
  have iM := hts (.initialized "java/lang/Math") (by decide +kernel)
  have hl : lv_has ls 2 [(0, .int (jI st9)), (1, .int (jI gr))] := hl
  refine jv_sipush hx hb (by decide) dX3_lastTouching_0 ?_
  refine lv_iload_n hx hb dX3_lastTouching_3 rfl (lv_at hl 0 rfl) ?_
  refine lv_iload_n hx hb dX3_lastTouching_4 rfl (lv_at hl 1 rfl) ?_
  refine jv_iadd hx hb dX3_lastTouching_5 ?_
  refine jv_iconst hx hb dX3_lastTouching_6 ?_
  refine jv_isub hx hb dX3_lastTouching_7 ?_
  refine jv_min hx hb (hml.trans hl.1.symm) hown m65 s65 iM c65 (Nat.le_of_ble_eq_true rfl) (Nat.le_of_ble_eq_true rfl) (Nat.le_refl 0) (Nat.le_refl 0) ⟨by decide, by decide⟩ ⟨by omega, by omega⟩ dX3_lastTouching_8 (fun x_1 ex_1 => ?_)
  exact hret x_1 () _ _ _ _ (by omega) (hP.sub [] rfl) (hD.sub [] (by decide) rfl) hS dX3_lastTouching_11

set_option maxHeartbeats 4000000 in
set_option maxRecDepth 100000 in
/-- Sites.bitsBetween -/
theorem tX3_bitsBetween (l : Launch) (D : va_G) (g : ClassId × ClassId × ClassId) (w9 : Int) (fr9 : Int) (to9 : Int) (hf : 0 ≤ fr9 ∧ fr9 ≤ to9 ∧ to9 ≤ 1023 ∧ fr9 / 64 ≤ w9 ∧ w9 ≤ to9 / 64) : jMl l D g yX3_bitsBetween wsX3_bitsBetween 1 24 [.int (jI w9), .int (jI fr9), .int (jI to9)] [] (S := Unit) (fun z _ => mspec z fr9 (to9 + 1) w9) (fun _ => []) := by
  refine jMl_of (cc := cX3_bitsBetween) (maxL := 5) (by decide) rfl (Nat.le_of_ble_eq_true rfl) ?_
  intro p e s m args below meth c Q A hx hb hml hts hown hK hA hret ls hl hP hD
  have hS : va_S A s.heap s.heap [] := va_S.rf
  have hown : s.vm.findClass RX3 = some m.cls := hown
  have k52 := hts (.constantLong RX3 52 (-1)) (by decide +kernel)
  have m60 := hts (.methodLink RX3 60 Lib.Math.max.name) (by decide +kernel)
  have s60 := hts (.static Lib.Math.max.name) (by decide +kernel)
  have c60 := hts (.code Lib.Math.max.name Lib.Math.max.code 2 (some .int)) (by decide +kernel)
  have m65 := hts (.methodLink RX3 65 Lib.Math.min.name) (by decide +kernel)
  have s65 := hts (.static Lib.Math.min.name) (by decide +kernel)
  have c65 := hts (.code Lib.Math.min.name Lib.Math.min.code 2 (some .int)) (by decide +kernel)
  have iM := hts (.initialized "java/lang/Math") (by decide +kernel)
  have hl : lv_has ls 5 [(0, .int (jI w9)), (1, .int (jI fr9)), (2, .int (jI to9))] := hl
  refine lv_iload_n hx hb dX3_bitsBetween_0 rfl (lv_at hl 1 rfl) ?_
  refine lv_iload_n hx hb dX3_bitsBetween_1 rfl (lv_at hl 0 rfl) ?_
  refine jv_bipush hx hb (by decide) dX3_bitsBetween_2 ?_
  refine jv_imul hx hb dX3_bitsBetween_4 ?_
  refine jv_isub hx hb dX3_bitsBetween_5 ?_
  refine jv_iconst hx hb dX3_bitsBetween_6 ?_
  refine jv_max hx hb (hml.trans hl.1.symm) hown m60 s60 iM c60 (Nat.le_of_ble_eq_true rfl) (Nat.le_of_ble_eq_true rfl) (Nat.le_refl 0) (Nat.le_refl 0) ⟨by omega, by omega⟩ ⟨by decide, by decide⟩ dX3_bitsBetween_7 (fun aa eaa => ?_)
  refine lv_istore_n (lv' := [(3, .int (jI aa)), (0, .int (jI w9)), (1, .int (jI fr9)), (2, .int (jI to9))]) hx hb dX3_bitsBetween_10 rfl hl (by decide) rfl (fun ls hl => ?_)
  refine lv_iload_n hx hb dX3_bitsBetween_11 rfl (lv_at hl 3 rfl) ?_
  refine lv_iload_n hx hb dX3_bitsBetween_12 rfl (lv_at hl 1 rfl) ?_
  refine jv_bipush hx hb (by decide) dX3_bitsBetween_13 ?_
  refine jv_imul hx hb dX3_bitsBetween_15 ?_
  refine jv_isub hx hb dX3_bitsBetween_16 ?_
  refine jv_bipush hx hb (by decide) dX3_bitsBetween_17 ?_
  refine jv_min hx hb (hml.trans hl.1.symm) hown m65 s65 iM c65 (Nat.le_of_ble_eq_true rfl) (Nat.le_of_ble_eq_true rfl) (Nat.le_refl 0) (Nat.le_refl 0) ⟨by omega, by omega⟩ ⟨by decide, by decide⟩ dX3_bitsBetween_19 (fun bb ebb => ?_)
  refine lv_istore (lv' := [(4, .int (jI bb)), (3, .int (jI aa)), (0, .int (jI w9)), (1, .int (jI fr9)), (2, .int (jI to9))]) hx hb dX3_bitsBetween_22 hl (by decide) rfl (fun ls hl => ?_)
  refine jv_ldc2 (n := (-1)) hx hb (by decide) hown k52 dX3_bitsBetween_24 ?_
  refine lv_iload_n hx hb dX3_bitsBetween_27 rfl (lv_at hl 1 rfl) ?_
  refine lv_lshl (v := (wSl (jL (-1)) aa)) hx hb dX3_bitsBetween_28 rfl ?_
  refine jv_ldc2 (n := (-1)) hx hb (by decide) hown k52 dX3_bitsBetween_29 ?_
  refine jv_bipush hx hb (by decide) dX3_bitsBetween_32 ?_
  refine lv_iload hx hb dX3_bitsBetween_34 (lv_at hl 0 rfl) ?_
  refine jv_isub hx hb dX3_bitsBetween_36 ?_
  refine lv_lushr (v := (wSu (jL (-1)) (63 - bb))) hx hb dX3_bitsBetween_37 rfl ?_
  refine lv_land hx hb dX3_bitsBetween_38 ?_
  exact hret ((wSl (jL (-1)) aa) &&& (wSu (jL (-1)) (63 - bb))) () _ _ _ _ (fun b hb => by
        rw [wb_and, wb_ge ⟨by omega, by omega⟩ hb, wb_su ⟨by omega, by omega⟩ hb, Bool.eq_iff_iff]
        simp only [Bool.and_eq_true, decide_eq_true_eq]
        omega) (hP.sub [] rfl) (hD.sub [] (by decide) rfl) hS dX3_bitsBetween_39

set_option maxHeartbeats 4000000 in
set_option maxRecDepth 100000 in
/-- Sites.openAll -/
theorem tX3_openAll (l : Launch) (D : va_G) (g : ClassId × ClassId × ClassId) (o : Nat) (a0 : Nat) (kn : Int) (f : Int → Int64)  : jMv l D g yX3_openAll wsX3_openAll 1 24 [.ref o] [(o, .inr (3, [.ref a0, .int (jI kn)])), (a0, .inl (g.2.1, 16000, .inr (.inl (aW f))))] (S := (Int → Int64)) (fun u => stI u []) (fun u => [(o, .inr (3, [.ref a0, .int (jI kn)])), (a0, .inl (g.2.1, 16000, .inr (.inl (aW u))))]) := by
  refine jMv_of (cc := cX3_openAll) (maxL := 2) (by decide) rfl (Nat.le_of_ble_eq_true rfl) ?_
  intro p e s m args below meth c Q A hx hb hml hts hown hK hA hret ls hl hP hD
  have hS : va_S A s.heap s.heap [] := va_S.rf
  have hown : s.vm.findClass RX3 = some m.cls := hown
  have f11 := hts (.fieldLink RX3 11 "AntennaFill$Sites" "closed" "[J") (by decide +kernel)
  have inX3 : ∀ w ∈ wsX30, w ∈ wsX3_openAll := by decide +kernel
  have hl : lv_has ls 2 [(0, .ref o)] := hl
  have L2 : ∀ (fuel : Nat) (i : Int) (f' : Int → Int64), (0 ≤ i ∧ i ≤ 16000) → (∀ k, 0 ≤ k → k < i → f' k = jL 0) → ((16000 : Int) - i < (fuel : Int)) → ∀ (H : Heap) (locs : List Loc) (ls : Array Slot), va_P D jcl [(o, .inr (3, [.ref a0, .int (jI kn)])), (a0, .inl (g.2.1, 16000, .inr (.inl (aW f'))))] H → va_D A [(o, .inr (3, [.ref a0, .int (jI kn)])), (a0, .inl (g.2.1, 16000, .inr (.inl (aW f'))))] → va_S A s.heap H locs → lv_has ls 2 [(0, .ref o), (1, .int (jI i))] → W p l e (jR 1 24) s m args below meth c H locs 0 0 Q (F0 m 2 ls []) := by
    intro fuel
    induction fuel with
    | zero =>
      intro i f' hi h1 hfu
      exfalso; omega
    | succ fuel ihL2 =>
      intro i f' hi h1 hfu H locs ls hP hD hS hl
      refine lv_iload_n hx hb dX3_openAll_2 rfl (lv_at hl 1 rfl) ?_
      refine lv_aload_n hx hb dX3_openAll_3 rfl (lv_at hl 0 rfl) ?_
      refine va_get (D := D) (ci := 3) (v := .ref a0) (C := RX3) (T := TX3) (N := 2) hx hb hts inX3 hown hK hP 0 rfl rfl 0 (by decide) f11 (fun _ h9 => h9) rfl dX3_openAll_4 ?_
      refine jv_alen hx hb hK hP 1 1 rfl rfl dX3_openAll_7 ?_
      refine jv_top (b := 16000) (by first | rfl | omega) ?_
      refine jv_icmp_ge (tgt := 24) hx hb ⟨by omega, by omega⟩ ⟨by decide, by decide⟩ dX3_openAll_8 (by decide) (fun c8 => ?_) (fun c8 => ?_)
      · skip
        exact hret  f' _ _ _ _ (stI_0 fun k q1 q2 => h1 k q1 (by omega)) (hP.sub [0, 1] rfl) (hD.sub [0, 1] (by decide) rfl) hS dX3_openAll_24
      · skip
        refine lv_aload_n hx hb dX3_openAll_11 rfl (lv_at hl 0 rfl) ?_
        refine va_get (D := D) (ci := 3) (v := .ref a0) (C := RX3) (T := TX3) (N := 2) hx hb hts inX3 hown hK hP 0 rfl rfl 0 (by decide) f11 (fun _ h9 => h9) rfl dX3_openAll_12 ?_
        refine lv_iload_n hx hb dX3_openAll_15 rfl (lv_at hl 1 rfl) ?_
        refine jv_lconst0 hx hb dX3_openAll_16 ?_
        refine jv_wast hx hb hK hP hD hS 1 1 rfl rfl (i := i) (x := (jL 0)) ⟨by omega, by omega⟩ (Nat.le_of_ble_eq_true rfl) dX3_openAll_17 (fun H locs hP hD hS => ?_)
        have hP : va_P D jcl [(o, .inr (3, [.ref a0, .int (jI kn)])), (a0, .inl (g.2.1, 16000, .inr (.inl (aW (upW f' i (jL 0))))))] H := hP
        have hD : va_D A [(o, .inr (3, [.ref a0, .int (jI kn)])), (a0, .inl (g.2.1, 16000, .inr (.inl (aW (upW f' i (jL 0))))))] := hD
        refine jv_iinc (lv2 := [(1, .int (jI (i + 1))), (0, .ref o)]) hx hb dX3_openAll_18 hl (k := 1) rfl (by decide) rfl (fun ls hl => ?_)
        refine lv_goto (tgt := 2) hx hb dX3_openAll_21 (by decide) ?_
        exact ihL2 (i + 1) (upW f' i (jL 0)) (by omega) (fun x q1 q2 => by
                      by_cases q3 : x = i
                      · rw [q3, upW_eq]
                      · rw [upW_ne _ _ q3]; exact h1 x q1 (by omega)) (by omega) _ _ _ (hP.sub [0, 1] rfl) (hD.sub [0, 1] (by decide) rfl) hS (lv_sub hl [1, 0] rfl)
  refine jv_iconst hx hb dX3_openAll_0 ?_
  refine lv_istore_n (lv' := [(1, .int (jI 0)), (0, .ref o)]) hx hb dX3_openAll_1 rfl hl (by decide) rfl (fun ls hl => ?_)
  exact L2 (((16000 : Int) - 0).toNat + 1) 0 f (by omega) (fun k _ _ => by omega) (by omega) _ _ _ (hP.sub [0, 1] rfl) (hD.sub [0, 1] (by decide) rfl) hS (lv_sub hl [1, 0] rfl)

set_option maxHeartbeats 4000000 in
set_option maxRecDepth 100000 in
/-- Sites.closeAround -/
theorem tX3_closeAround (l : Launch) (D : va_G) (g : ClassId × ClassId × ClassId) (o : Nat) (a0 : Nat) (kn : Int) (f : Int → Int64) (BL : List jQ) (q : jQ) (p0 : Int) (p1 : Int) (p2 : Int) (p3 : Int) (hpq : q.2.2.1 = p0 ∧ q.2.2.2.1 = p1 ∧ q.2.2.2.2.1 = p2 ∧ q.2.2.2.2.2 = p3 ∧ okQ q) (hst : stI f BL) : jMv l D g yX3_closeAround wsX3_closeAround 2 60 [.ref o, .int (jI p0), .int (jI p1), .int (jI p2), .int (jI p3)] [(o, .inr (3, [.ref a0, .int (jI kn)])), (a0, .inl (g.2.1, 16000, .inr (.inl (aW f))))] (S := (Int → Int64)) (fun u => stI u (BL ++ [q])) (fun u => [(o, .inr (3, [.ref a0, .int (jI kn)])), (a0, .inl (g.2.1, 16000, .inr (.inl (aW u))))]) := by
  refine jMv_of (cc := cX3_closeAround) (maxL := 10) (by decide) rfl (Nat.le_of_ble_eq_true rfl) ?_
  intro p e s m args below meth c Q A hx hb hml hts hown hK hA hret ls hl hP hD
  have hS : va_S A s.heap s.heap [] := va_S.rf
  have hown : s.vm.findClass RX3 = some m.cls := hown
  have f11 := hts (.fieldLink RX3 11 "AntennaFill$Sites" "closed" "[J") (by decide +kernel)
  have inX3 : ∀ w ∈ wsX30, w ∈ wsX3_closeAround := by decide +kernel
  have hl : lv_has ls 10 [(0, .ref o), (1, .int (jI p0)), (2, .int (jI p1)), (3, .int (jI p2)), (4, .int (jI p3))] := hl
  have hok := hpq.2.2.2.2
  unfold okQ at hok
  refine lv_iload_n hx hb dX3_closeAround_0 rfl (lv_at hl 1 rfl) ?_
  refine jv_iconst hx hb dX3_closeAround_1 ?_
  refine jc_Si (As := [.int (jI p0), .int (jI 2)]) (rest := []) (wq := [(o, .inr (3, [.ref a0, .int (jI kn)])), (a0, .inl (g.2.1, 16000, .inr (.inl (aW f))))]) ⟨hx, hb, hml, hown, hts⟩ (tX3_firstTouching l D g p0 2 (by omega)) (va_cwS 2 hts gX3_closeAround_X3_firstTouching rfl rfl rfl (by decide +kernel) ⟨Nat.le_of_ble_eq_true rfl, Nat.le_of_ble_eq_true rfl⟩) hK hP hD hS hA [] [0, 1] rfl rfl (by decide) (by decide) (by decide) rfl rfl hl.1 (Nat.le_of_ble_eq_true rfl) dX3_closeAround_2 ⟨Nat.le_refl 0, Nat.le_refl 0⟩ (fun fr9 u H locs hu hP hD hS => ?_)
  have hu : fr9 = max 2 (p0 - 4 - 2 + 1) := hu
  have hfr := hu
  have hP : va_P D jcl [(o, .inr (3, [.ref a0, .int (jI kn)])), (a0, .inl (g.2.1, 16000, .inr (.inl (aW f))))] H := hP
  have hD : va_D A [(o, .inr (3, [.ref a0, .int (jI kn)])), (a0, .inl (g.2.1, 16000, .inr (.inl (aW f))))] := hD
  refine lv_istore (lv' := [(5, .int (jI fr9)), (0, .ref o), (1, .int (jI p0)), (2, .int (jI p1)), (3, .int (jI p2)), (4, .int (jI p3))]) hx hb dX3_closeAround_5 hl (by decide) rfl (fun ls hl => ?_)
  refine lv_iload_n hx hb dX3_closeAround_7 rfl (lv_at hl 4 rfl) ?_
  refine jv_iconst hx hb dX3_closeAround_8 ?_
  refine jc_Si (As := [.int (jI p2), .int (jI 2)]) (rest := []) (wq := [(o, .inr (3, [.ref a0, .int (jI kn)])), (a0, .inl (g.2.1, 16000, .inr (.inl (aW f))))]) ⟨hx, hb, hml, hown, hts⟩ (tX3_lastTouching l D g p2 2 (by omega)) (va_cwS 2 hts gX3_closeAround_X3_lastTouching rfl rfl rfl (by decide +kernel) ⟨Nat.le_of_ble_eq_true rfl, Nat.le_of_ble_eq_true rfl⟩) hK hP hD hS hA [] [0, 1] rfl rfl (by decide) (by decide) (by decide) rfl rfl hl.1 (Nat.le_of_ble_eq_true rfl) dX3_closeAround_9 ⟨Nat.le_refl 0, Nat.le_refl 0⟩ (fun to9 u H locs hu hP hD hS => ?_)
  have hu : to9 = min 994 (p2 + 2 - 1) := hu
  have hto9 := hu
  have hP : va_P D jcl [(o, .inr (3, [.ref a0, .int (jI kn)])), (a0, .inl (g.2.1, 16000, .inr (.inl (aW f))))] H := hP
  have hD : va_D A [(o, .inr (3, [.ref a0, .int (jI kn)])), (a0, .inl (g.2.1, 16000, .inr (.inl (aW f))))] := hD
  refine lv_istore (lv' := [(6, .int (jI to9)), (5, .int (jI fr9)), (0, .ref o), (1, .int (jI p0)), (2, .int (jI p1)), (3, .int (jI p2)), (4, .int (jI p3))]) hx hb dX3_closeAround_12 hl (by decide) rfl (fun ls hl => ?_)
  refine lv_iload hx hb dX3_closeAround_14 (lv_at hl 6 rfl) ?_
  refine jv_iconst hx hb dX3_closeAround_16 ?_
  refine jc_Si (As := [.int (jI p3), .int (jI 2)]) (rest := []) (wq := [(o, .inr (3, [.ref a0, .int (jI kn)])), (a0, .inl (g.2.1, 16000, .inr (.inl (aW f))))]) ⟨hx, hb, hml, hown, hts⟩ (tX3_lastTouching l D g p3 2 (by omega)) (va_cwS 2 hts gX3_closeAround_X3_lastTouching rfl rfl rfl (by decide +kernel) ⟨Nat.le_of_ble_eq_true rfl, Nat.le_of_ble_eq_true rfl⟩) hK hP hD hS hA [] [0, 1] rfl rfl (by decide) (by decide) (by decide) rfl rfl hl.1 (Nat.le_of_ble_eq_true rfl) dX3_closeAround_17 ⟨Nat.le_refl 0, Nat.le_refl 0⟩ (fun tp9 u H locs hu hP hD hS => ?_)
  have hu : tp9 = min 994 (p3 + 2 - 1) := hu
  have htp9 := hu
  have hP : va_P D jcl [(o, .inr (3, [.ref a0, .int (jI kn)])), (a0, .inl (g.2.1, 16000, .inr (.inl (aW f))))] H := hP
  have hD : va_D A [(o, .inr (3, [.ref a0, .int (jI kn)])), (a0, .inl (g.2.1, 16000, .inr (.inl (aW f))))] := hD
  refine lv_istore (lv' := [(7, .int (jI tp9)), (6, .int (jI to9)), (5, .int (jI fr9)), (0, .ref o), (1, .int (jI p0)), (2, .int (jI p1)), (3, .int (jI p2)), (4, .int (jI p3))]) hx hb dX3_closeAround_20 hl (by decide) rfl (fun ls hl => ?_)
  refine lv_iload_n hx hb dX3_closeAround_22 rfl (lv_at hl 5 rfl) ?_
  refine jv_iconst hx hb dX3_closeAround_23 ?_
  refine jc_Si (As := [.int (jI p1), .int (jI 2)]) (rest := []) (wq := [(o, .inr (3, [.ref a0, .int (jI kn)])), (a0, .inl (g.2.1, 16000, .inr (.inl (aW f))))]) ⟨hx, hb, hml, hown, hts⟩ (tX3_firstTouching l D g p1 2 (by omega)) (va_cwS 2 hts gX3_closeAround_X3_firstTouching rfl rfl rfl (by decide +kernel) ⟨Nat.le_of_ble_eq_true rfl, Nat.le_of_ble_eq_true rfl⟩) hK hP hD hS hA [] [0, 1] rfl rfl (by decide) (by decide) (by decide) rfl rfl hl.1 (Nat.le_of_ble_eq_true rfl) dX3_closeAround_24 ⟨Nat.le_refl 0, Nat.le_refl 0⟩ (fun yy0 u H locs hu hP hD hS => ?_)
  have hu : yy0 = max 2 (p1 - 4 - 2 + 1) := hu
  have hyy := hu
  have hP : va_P D jcl [(o, .inr (3, [.ref a0, .int (jI kn)])), (a0, .inl (g.2.1, 16000, .inr (.inl (aW f))))] H := hP
  have hD : va_D A [(o, .inr (3, [.ref a0, .int (jI kn)])), (a0, .inl (g.2.1, 16000, .inr (.inl (aW f))))] := hD
  have LO : ∀ (fuel : Nat) (y9 : Int) (f' : Int → Int64), (yy0 ≤ y9 ∧ y9 ≤ max yy0 (tp9 + 1)) → (mkr f f' fr9 (to9 + 1) yy0 y9 (fr9 / 64)) → (tp9 + 1 - y9 < (fuel : Int)) → ∀ (H : Heap) (locs : List Loc) (ls : Array Slot), va_P D jcl [(o, .inr (3, [.ref a0, .int (jI kn)])), (a0, .inl (g.2.1, 16000, .inr (.inl (aW f'))))] H → va_D A [(o, .inr (3, [.ref a0, .int (jI kn)])), (a0, .inl (g.2.1, 16000, .inr (.inl (aW f'))))] → va_S A s.heap H locs → lv_has ls 10 [(0, .ref o), (5, .int (jI fr9)), (6, .int (jI to9)), (7, .int (jI tp9)), (8, .int (jI y9))] → W p l e (jR 2 60) s m args below meth c H locs 0 0 Q (F0 m 29 ls []) := by
    intro fuel
    induction fuel with
    | zero =>
      intro y9 f' hy h1 hfu
      exfalso; omega
    | succ fuel ihLO =>
      intro y9 f' hy h1 hfu H locs ls hP hD hS hl
      refine lv_iload hx hb dX3_closeAround_29 (lv_at hl 4 rfl) ?_
      refine lv_iload hx hb dX3_closeAround_31 (lv_at hl 3 rfl) ?_
      refine jv_icmp_gt (tgt := 90) hx hb ⟨by omega, by omega⟩ ⟨by omega, by omega⟩ dX3_closeAround_33 (by decide) (fun c33 => ?_) (fun c33 => ?_)
      · skip
        exact hret  f' _ _ _ _ (stI_s hst h1 (by omega) (by omega) (by omega) (by omega)) (hP.sub [0, 1] rfl) (hD.sub [0, 1] (by decide) rfl) hS dX3_closeAround_90
      · skip
        have LI : ∀ (fuel : Nat) (w9 : Int) (g' : Int → Int64), (fr9 / 64 ≤ w9 ∧ w9 ≤ to9 / 64 + 1) → (mkr f g' fr9 (to9 + 1) yy0 y9 w9) → (to9 / 64 + 1 - w9 < (fuel : Int)) → ∀ (H : Heap) (locs : List Loc) (ls : Array Slot), va_P D jcl [(o, .inr (3, [.ref a0, .int (jI kn)])), (a0, .inl (g.2.1, 16000, .inr (.inl (aW g'))))] H → va_D A [(o, .inr (3, [.ref a0, .int (jI kn)])), (a0, .inl (g.2.1, 16000, .inr (.inl (aW g'))))] → va_S A s.heap H locs → lv_has ls 10 [(0, .ref o), (5, .int (jI fr9)), (6, .int (jI to9)), (7, .int (jI tp9)), (8, .int (jI y9)), (9, .int (jI w9))] → W p l e (jR 2 60) s m args below meth c H locs 0 0 Q (F0 m 43 ls []) := by
          intro fuel
          induction fuel with
          | zero =>
            intro w9 g' hw h2 hfu
            exfalso; omega
          | succ fuel ihLI =>
            intro w9 g' hw h2 hfu H locs ls hP hD hS hl
            refine lv_iload hx hb dX3_closeAround_43 (lv_at hl 5 rfl) ?_
            refine lv_iload hx hb dX3_closeAround_45 (lv_at hl 2 rfl) ?_
            refine jv_bipush hx hb (by decide) dX3_closeAround_47 ?_
            refine jv_ishrN hx hb 6 64 rfl ⟨by omega, by omega, by omega⟩ (by decide) (by decide) dX3_closeAround_49 ?_
            refine jv_icmp_gt (tgt := 84) hx hb ⟨by omega, by omega⟩ ⟨by omega, by omega⟩ dX3_closeAround_50 (by decide) (fun c50 => ?_) (fun c50 => ?_)
            · skip
              refine jv_iinc (lv2 := [(8, .int (jI (y9 + 1))), (0, .ref o), (5, .int (jI fr9)), (6, .int (jI to9)), (7, .int (jI tp9)), (9, .int (jI w9))]) hx hb dX3_closeAround_84 hl (k := 4) rfl (by decide) rfl (fun ls hl => ?_)
              refine lv_goto (tgt := 29) hx hb dX3_closeAround_87 (by decide) ?_
              exact ihLO (y9 + 1) g' (by omega) (mkr_row h2 (by omega)) (by omega) _ _ _ (hP.sub [0, 1] rfl) (hD.sub [0, 1] (by decide) rfl) hS (lv_sub hl [1, 2, 3, 4, 0] rfl)
            · skip
              refine lv_aload_n hx hb dX3_closeAround_53 rfl (lv_at hl 0 rfl) ?_
              refine va_get (D := D) (ci := 3) (v := .ref a0) (C := RX3) (T := TX3) (N := 2) hx hb hts inX3 hown hK hP 0 rfl rfl 0 (by decide) f11 (fun _ h9 => h9) rfl dX3_closeAround_54 ?_
              refine lv_iload hx hb dX3_closeAround_57 (lv_at hl 4 rfl) ?_
              refine jv_bipush hx hb (by decide) dX3_closeAround_59 ?_
              refine jv_imul hx hb dX3_closeAround_61 ?_
              refine lv_iload hx hb dX3_closeAround_62 (lv_at hl 5 rfl) ?_
              refine jv_iadd hx hb dX3_closeAround_64 ?_
              refine lv_dup2_11 hx hb dX3_closeAround_65 rfl rfl ?_
              refine jv_wald hx hb hK hP 1 1 rfl rfl (i := ((y9 * 16) + w9)) ⟨by omega, by omega⟩ (Nat.le_of_ble_eq_true rfl) dX3_closeAround_66 ?_
              refine lv_iload hx hb dX3_closeAround_67 (lv_at hl 5 rfl) ?_
              refine lv_iload hx hb dX3_closeAround_69 (lv_at hl 1 rfl) ?_
              refine lv_iload hx hb dX3_closeAround_71 (lv_at hl 2 rfl) ?_
              refine jc_Sl (As := [.int (jI w9), .int (jI fr9), .int (jI to9)]) (rest := [.long (g' ((y9 * 16) + w9)), .int (jI ((y9 * 16) + w9)), .ref a0]) (wq := [(o, .inr (3, [.ref a0, .int (jI kn)])), (a0, .inl (g.2.1, 16000, .inr (.inl (aW g'))))]) ⟨hx, hb, hml, hown, hts⟩ (tX3_bitsBetween l D g w9 fr9 to9 (by omega)) (va_cwS 3 hts gX3_closeAround_X3_bitsBetween rfl rfl rfl (by decide +kernel) ⟨Nat.le_of_ble_eq_true rfl, Nat.le_of_ble_eq_true rfl⟩) hK hP hD hS hA [] [0, 1] rfl rfl (by decide) (by decide) (by decide) rfl rfl hl.1 (Nat.le_of_ble_eq_true rfl) dX3_closeAround_73 ⟨Nat.le_refl 0, Nat.le_refl 0⟩ (fun m9 u H locs hu hP hD hS => ?_)
              have hu : mspec m9 fr9 (to9 + 1) w9 := hu
              have hm9 := hu
              have hP : va_P D jcl [(o, .inr (3, [.ref a0, .int (jI kn)])), (a0, .inl (g.2.1, 16000, .inr (.inl (aW g'))))] H := hP
              have hD : va_D A [(o, .inr (3, [.ref a0, .int (jI kn)])), (a0, .inl (g.2.1, 16000, .inr (.inl (aW g'))))] := hD
              refine lv_lor hx hb dX3_closeAround_76 ?_
              refine jv_wast hx hb hK hP hD hS 1 1 rfl rfl (i := ((y9 * 16) + w9)) (x := ((g' ((y9 * 16) + w9)) ||| m9)) ⟨by omega, by omega⟩ (Nat.le_of_ble_eq_true rfl) dX3_closeAround_77 (fun H locs hP hD hS => ?_)
              have hP : va_P D jcl [(o, .inr (3, [.ref a0, .int (jI kn)])), (a0, .inl (g.2.1, 16000, .inr (.inl (aW (upW g' ((y9 * 16) + w9) ((g' ((y9 * 16) + w9)) ||| m9))))))] H := hP
              have hD : va_D A [(o, .inr (3, [.ref a0, .int (jI kn)])), (a0, .inl (g.2.1, 16000, .inr (.inl (aW (upW g' ((y9 * 16) + w9) ((g' ((y9 * 16) + w9)) ||| m9))))))] := hD
              refine jv_iinc (lv2 := [(9, .int (jI (w9 + 1))), (0, .ref o), (5, .int (jI fr9)), (6, .int (jI to9)), (7, .int (jI tp9)), (8, .int (jI y9))]) hx hb dX3_closeAround_78 hl (k := 5) rfl (by decide) rfl (fun ls hl => ?_)
              refine lv_goto (tgt := 43) hx hb dX3_closeAround_81 (by decide) ?_
              exact ihLI (w9 + 1) (upW g' ((y9 * 16) + w9) ((g' ((y9 * 16) + w9)) ||| m9)) (by omega) (mkr_step h2 (by omega) ⟨by omega, by omega⟩ hy.1 hm9) (by omega) _ _ _ (hP.sub [0, 1] rfl) (hD.sub [0, 1] (by decide) rfl) hS (lv_sub hl [1, 2, 3, 4, 5, 0] rfl)
        refine lv_iload hx hb dX3_closeAround_36 (lv_at hl 1 rfl) ?_
        refine jv_bipush hx hb (by decide) dX3_closeAround_38 ?_
        refine jv_ishrN hx hb 6 64 rfl ⟨by omega, by omega, by omega⟩ (by decide) (by decide) dX3_closeAround_40 ?_
        refine lv_istore (lv' := [(9, .int (jI (fr9 / 64))), (0, .ref o), (5, .int (jI fr9)), (6, .int (jI to9)), (7, .int (jI tp9)), (8, .int (jI y9))]) hx hb dX3_closeAround_41 hl (by decide) rfl (fun ls hl => ?_)
        exact LI ((to9 / 64 + 1 - (fr9 / 64)).toNat + 1) (fr9 / 64) f' (by omega) (h1) (by omega) _ _ _ (hP.sub [0, 1] rfl) (hD.sub [0, 1] (by decide) rfl) hS (lv_sub hl [1, 2, 3, 4, 5, 0] rfl)
  refine lv_istore (lv' := [(8, .int (jI yy0)), (7, .int (jI tp9)), (6, .int (jI to9)), (5, .int (jI fr9)), (0, .ref o), (1, .int (jI p0)), (2, .int (jI p1)), (3, .int (jI p2)), (4, .int (jI p3))]) hx hb dX3_closeAround_27 hl (by decide) rfl (fun ls hl => ?_)
  exact LO ((tp9 + 1 - yy0).toNat + 1) yy0 f (by omega) (mkr_0) (by omega) _ _ _ (hP.sub [0, 1] rfl) (hD.sub [0, 1] (by decide) rfl) hS (lv_sub hl [4, 3, 2, 1, 0] rfl)

set_option maxHeartbeats 4000000 in
set_option maxRecDepth 100000 in
/-- Sites.closeAroundAll -/
theorem tX3_closeAroundAll (l : Launch) (D : va_G) (g : ClassId × ClassId × ClassId) (o : Nat) (a0 : Nat) (kn : Int) (f : Int → Int64) (BL : List jQ) (b : Nat) (b0 : Nat) (b1 : Nat) (b2 : Nat) (b3 : Nat) (b4 : Nat) (b5 : Nat) (nb : Nat) (fn : Int → Int) (fl : Int → Int) (fx : Int → Int) (fy : Int → Int) (fu : Int → Int) (fv : Int → Int) (bz : Int) (L : List jQ) (hnb : nb < 2147483648 ∧ bz ≤ (nb : Int)) (hB : bx fn fl fx fy fu fv bz L) (hst : stI f BL) : jMv l D g yX3_closeAroundAll wsX3_closeAroundAll 3 91 [.ref o, .ref b] [(o, .inr (3, [.ref a0, .int (jI kn)])), (a0, .inl (g.2.1, 16000, .inr (.inl (aW f)))), (b, .inr (0, [.ref b0, .ref b1, .ref b2, .ref b3, .ref b4, .ref b5, .int (jI bz)])), (b0, .inl (g.1, nb, .inl (aI fn))), (b1, .inl (g.1, nb, .inl (aI fl))), (b2, .inl (g.1, nb, .inl (aI fx))), (b3, .inl (g.1, nb, .inl (aI fy))), (b4, .inl (g.1, nb, .inl (aI fu))), (b5, .inl (g.1, nb, .inl (aI fv)))] (S := (Int → Int64)) (fun u => stI u (BL ++ L.filter (onL 0))) (fun u => [(o, .inr (3, [.ref a0, .int (jI kn)])), (a0, .inl (g.2.1, 16000, .inr (.inl (aW u)))), (b, .inr (0, [.ref b0, .ref b1, .ref b2, .ref b3, .ref b4, .ref b5, .int (jI bz)])), (b0, .inl (g.1, nb, .inl (aI fn))), (b1, .inl (g.1, nb, .inl (aI fl))), (b2, .inl (g.1, nb, .inl (aI fx))), (b3, .inl (g.1, nb, .inl (aI fy))), (b4, .inl (g.1, nb, .inl (aI fu))), (b5, .inl (g.1, nb, .inl (aI fv)))]) := by
  refine jMv_of (cc := cX3_closeAroundAll) (maxL := 3) (by decide) rfl (Nat.le_of_ble_eq_true rfl) ?_
  intro p e s m args below meth c Q A hx hb hml hts hown hK hA hret ls hl hP hD
  have hS : va_S A s.heap s.heap [] := va_S.rf
  have hown : s.vm.findClass RX3 = some m.cls := hown
  have f15 := hts (.fieldLink RX3 15 "AntennaFill$Boxes" "size" "I") (by decide +kernel)
  have f21 := hts (.fieldLink RX3 21 "AntennaFill$Boxes" "layer" "[I") (by decide +kernel)
  have f25 := hts (.fieldLink RX3 25 "AntennaFill$Boxes" "x0" "[I") (by decide +kernel)
  have f28 := hts (.fieldLink RX3 28 "AntennaFill$Boxes" "y0" "[I") (by decide +kernel)
  have f31 := hts (.fieldLink RX3 31 "AntennaFill$Boxes" "x1" "[I") (by decide +kernel)
  have f34 := hts (.fieldLink RX3 34 "AntennaFill$Boxes" "y1" "[I") (by decide +kernel)
  have inX0 : ∀ w ∈ wsX00, w ∈ wsX3_closeAroundAll := by decide +kernel
  have hl : lv_has ls 3 [(0, .ref o), (1, .ref b)] := hl
  have hlen := hB.1
  have L2 : ∀ (fuel : Nat) (i : Int) (f' : Int → Int64), (0 ≤ i ∧ i ≤ bz) → (stI f' (BL ++ (pre L i).filter (onL 0))) → (bz - i < (fuel : Int)) → ∀ (H : Heap) (locs : List Loc) (ls : Array Slot), va_P D jcl [(o, .inr (3, [.ref a0, .int (jI kn)])), (a0, .inl (g.2.1, 16000, .inr (.inl (aW f')))), (b, .inr (0, [.ref b0, .ref b1, .ref b2, .ref b3, .ref b4, .ref b5, .int (jI bz)])), (b0, .inl (g.1, nb, .inl (aI fn))), (b1, .inl (g.1, nb, .inl (aI fl))), (b2, .inl (g.1, nb, .inl (aI fx))), (b3, .inl (g.1, nb, .inl (aI fy))), (b4, .inl (g.1, nb, .inl (aI fu))), (b5, .inl (g.1, nb, .inl (aI fv)))] H → va_D A [(o, .inr (3, [.ref a0, .int (jI kn)])), (a0, .inl (g.2.1, 16000, .inr (.inl (aW f')))), (b, .inr (0, [.ref b0, .ref b1, .ref b2, .ref b3, .ref b4, .ref b5, .int (jI bz)])), (b0, .inl (g.1, nb, .inl (aI fn))), (b1, .inl (g.1, nb, .inl (aI fl))), (b2, .inl (g.1, nb, .inl (aI fx))), (b3, .inl (g.1, nb, .inl (aI fy))), (b4, .inl (g.1, nb, .inl (aI fu))), (b5, .inl (g.1, nb, .inl (aI fv)))] → va_S A s.heap H locs → lv_has ls 3 [(0, .ref o), (1, .ref b), (2, .int (jI i))] → W p l e (jR 3 91) s m args below meth c H locs 0 0 Q (F0 m 2 ls []) := by
    intro fuel
    induction fuel with
    | zero =>
      intro i f' hi h1 hfu
      exfalso; omega
    | succ fuel ihL2 =>
      intro i f' hi h1 hfu H locs ls hP hD hS hl
      refine lv_iload_n hx hb dX3_closeAroundAll_2 rfl (lv_at hl 2 rfl) ?_
      refine lv_aload_n hx hb dX3_closeAroundAll_3 rfl (lv_at hl 1 rfl) ?_
      refine va_get (D := D) (ci := 0) (v := .int (jI bz)) (C := RX0) (T := TX0) (N := 7) hx hb hts inX0 hown hK hP 2 rfl rfl 6 (by decide) f15 (fun _ h9 => h9) rfl dX3_closeAroundAll_4 ?_
      refine jv_icmp_ge (tgt := 53) hx hb ⟨by omega, by omega⟩ ⟨by omega, by omega⟩ dX3_closeAroundAll_7 (by decide) (fun c7 => ?_) (fun c7 => ?_)
      · skip
        exact hret  f' _ _ _ _ (by rw [← pre_all (L := L) (i := i) (by omega)]; exact h1) (hP.sub [0, 1, 2, 3, 4, 5, 6, 7, 8] rfl) (hD.sub [0, 1, 2, 3, 4, 5, 6, 7, 8] (by decide) rfl) hS dX3_closeAroundAll_53
      · skip
        obtain ⟨q, hq, hm, e0, e1, e2, e3, e4, e5, hok⟩ := bx_at hB (k := i) ⟨hi.1, by omega⟩
        have hok2 := hok
        unfold okQ at hok
        refine lv_aload_n hx hb dX3_closeAroundAll_10 rfl (lv_at hl 1 rfl) ?_
        refine va_get (D := D) (ci := 0) (v := .ref b1) (C := RX0) (T := TX0) (N := 7) hx hb hts inX0 hown hK hP 2 rfl rfl 1 (by decide) f21 (fun _ h9 => h9) rfl dX3_closeAroundAll_11 ?_
        refine lv_iload_n hx hb dX3_closeAroundAll_14 rfl (lv_at hl 2 rfl) ?_
        refine jv_iald hx hb hK hP 4 0 rfl rfl (i := i) ⟨by omega, by omega⟩ hnb.1 dX3_closeAroundAll_15 ?_
        refine jv_if_ne (tgt := 47) hx hb ⟨by omega, by omega⟩ dX3_closeAroundAll_16 (by decide) (fun c16 => ?_) (fun c16 => ?_)
        · skip
          refine jv_iinc (lv2 := [(2, .int (jI (i + 1))), (0, .ref o), (1, .ref b)]) hx hb dX3_closeAroundAll_47 hl (k := 2) rfl (by decide) rfl (fun ls hl => ?_)
          refine lv_goto (tgt := 2) hx hb dX3_closeAroundAll_50 (by decide) ?_
          exact ihL2 (i + 1) f' (by omega) (by first | (rw [flt_n _ hi.1 hq (onL_f (by omega))]; exact h1) | (rw [flt_s _ hi.1 hq (onL_t (by omega)), ← List.append_assoc]; exact h2)) (by omega) _ _ _ (hP.sub [0, 1, 2, 3, 4, 5, 6, 7, 8] rfl) (hD.sub [0, 1, 2, 3, 4, 5, 6, 7, 8] (by decide) rfl) hS (lv_sub hl [1, 2, 0] rfl)
        · skip
          refine lv_aload_n hx hb dX3_closeAroundAll_19 rfl (lv_at hl 0 rfl) ?_
          refine lv_aload_n hx hb dX3_closeAroundAll_20 rfl (lv_at hl 1 rfl) ?_
          refine va_get (D := D) (ci := 0) (v := .ref b2) (C := RX0) (T := TX0) (N := 7) hx hb hts inX0 hown hK hP 2 rfl rfl 2 (by decide) f25 (fun _ h9 => h9) rfl dX3_closeAroundAll_21 ?_
          refine lv_iload_n hx hb dX3_closeAroundAll_24 rfl (lv_at hl 2 rfl) ?_
          refine jv_iald hx hb hK hP 5 0 rfl rfl (i := i) ⟨by omega, by omega⟩ hnb.1 dX3_closeAroundAll_25 ?_
          refine lv_aload_n hx hb dX3_closeAroundAll_26 rfl (lv_at hl 1 rfl) ?_
          refine va_get (D := D) (ci := 0) (v := .ref b3) (C := RX0) (T := TX0) (N := 7) hx hb hts inX0 hown hK hP 2 rfl rfl 3 (by decide) f28 (fun _ h9 => h9) rfl dX3_closeAroundAll_27 ?_
          refine lv_iload_n hx hb dX3_closeAroundAll_30 rfl (lv_at hl 2 rfl) ?_
          refine jv_iald hx hb hK hP 6 0 rfl rfl (i := i) ⟨by omega, by omega⟩ hnb.1 dX3_closeAroundAll_31 ?_
          refine lv_aload_n hx hb dX3_closeAroundAll_32 rfl (lv_at hl 1 rfl) ?_
          refine va_get (D := D) (ci := 0) (v := .ref b4) (C := RX0) (T := TX0) (N := 7) hx hb hts inX0 hown hK hP 2 rfl rfl 4 (by decide) f31 (fun _ h9 => h9) rfl dX3_closeAroundAll_33 ?_
          refine lv_iload_n hx hb dX3_closeAroundAll_36 rfl (lv_at hl 2 rfl) ?_
          refine jv_iald hx hb hK hP 7 0 rfl rfl (i := i) ⟨by omega, by omega⟩ hnb.1 dX3_closeAroundAll_37 ?_
          refine lv_aload_n hx hb dX3_closeAroundAll_38 rfl (lv_at hl 1 rfl) ?_
          refine va_get (D := D) (ci := 0) (v := .ref b5) (C := RX0) (T := TX0) (N := 7) hx hb hts inX0 hown hK hP 2 rfl rfl 5 (by decide) f34 (fun _ h9 => h9) rfl dX3_closeAroundAll_39 ?_
          refine lv_iload_n hx hb dX3_closeAroundAll_42 rfl (lv_at hl 2 rfl) ?_
          refine jv_iald hx hb hK hP 8 0 rfl rfl (i := i) ⟨by omega, by omega⟩ hnb.1 dX3_closeAroundAll_43 ?_
          refine jc_Vv (As := [.int (jI (fx i)), .int (jI (fy i)), .int (jI (fu i)), .int (jI (fv i))]) (rest := []) (wq := [(b, .inr (0, [.ref b0, .ref b1, .ref b2, .ref b3, .ref b4, .ref b5, .int (jI bz)])), (b0, .inl (g.1, nb, .inl (aI fn))), (b1, .inl (g.1, nb, .inl (aI fl))), (b2, .inl (g.1, nb, .inl (aI fx))), (b3, .inl (g.1, nb, .inl (aI fy))), (b4, .inl (g.1, nb, .inl (aI fu))), (b5, .inl (g.1, nb, .inl (aI fv)))]) ⟨hx, hb, hml, hown, hts⟩ (tX3_closeAround l D g o a0 kn f' (BL ++ (pre L i).filter (onL 0)) q (fx i) (fy i) (fu i) (fv i) (⟨e2.symm, e3.symm, e4.symm, e5.symm, hok2⟩) (h1)) (cwV 4 hts gX3_closeAroundAll_X3_closeAround rfl rfl rfl (by decide +kernel) ⟨Nat.le_of_ble_eq_true rfl, Nat.le_of_ble_eq_true rfl⟩) hK hP hD hS hA [0, 1] [2, 3, 4, 5, 6, 7, 8] rfl rfl (by decide) (by decide) (by decide) (va_recv hK hP (ci := 3) (q0 := 0) rfl rfl) rfl rfl hl.1 (Nat.le_of_ble_eq_true rfl) dX3_closeAroundAll_44 ⟨Nat.le_refl 0, Nat.le_refl 0⟩ (fun u H locs hu hP hD hS => ?_)
          obtain ⟨f'_1, rfl⟩ : ∃ z9, z9 = u := ⟨_, rfl⟩
          have hu : stI f'_1 ((BL ++ (pre L i).filter (onL 0)) ++ [q]) := hu
          have h2 := hu
          have hP : va_P D jcl [(b, .inr (0, [.ref b0, .ref b1, .ref b2, .ref b3, .ref b4, .ref b5, .int (jI bz)])), (b0, .inl (g.1, nb, .inl (aI fn))), (b1, .inl (g.1, nb, .inl (aI fl))), (b2, .inl (g.1, nb, .inl (aI fx))), (b3, .inl (g.1, nb, .inl (aI fy))), (b4, .inl (g.1, nb, .inl (aI fu))), (b5, .inl (g.1, nb, .inl (aI fv))), (o, .inr (3, [.ref a0, .int (jI kn)])), (a0, .inl (g.2.1, 16000, .inr (.inl (aW f'_1))))] H := hP
          have hD : va_D A [(b, .inr (0, [.ref b0, .ref b1, .ref b2, .ref b3, .ref b4, .ref b5, .int (jI bz)])), (b0, .inl (g.1, nb, .inl (aI fn))), (b1, .inl (g.1, nb, .inl (aI fl))), (b2, .inl (g.1, nb, .inl (aI fx))), (b3, .inl (g.1, nb, .inl (aI fy))), (b4, .inl (g.1, nb, .inl (aI fu))), (b5, .inl (g.1, nb, .inl (aI fv))), (o, .inr (3, [.ref a0, .int (jI kn)])), (a0, .inl (g.2.1, 16000, .inr (.inl (aW f'_1))))] := hD
          refine jv_iinc (lv2 := [(2, .int (jI (i + 1))), (0, .ref o), (1, .ref b)]) hx hb dX3_closeAroundAll_47 hl (k := 2) rfl (by decide) rfl (fun ls hl => ?_)
          refine lv_goto (tgt := 2) hx hb dX3_closeAroundAll_50 (by decide) ?_
          exact ihL2 (i + 1) f'_1 (by omega) (by first | (rw [flt_n _ hi.1 hq (onL_f (by omega))]; exact h1) | (rw [flt_s _ hi.1 hq (onL_t (by omega)), ← List.append_assoc]; exact h2)) (by omega) _ _ _ (hP.sub [7, 8, 0, 1, 2, 3, 4, 5, 6] rfl) (hD.sub [7, 8, 0, 1, 2, 3, 4, 5, 6] (by decide) rfl) hS (lv_sub hl [1, 2, 0] rfl)
  refine jv_iconst hx hb dX3_closeAroundAll_0 ?_
  refine lv_istore_n (lv' := [(2, .int (jI 0)), (0, .ref o), (1, .ref b)]) hx hb dX3_closeAroundAll_1 rfl hl (by decide) rfl (fun ls hl => ?_)
  exact L2 ((bz - 0).toNat + 1) 0 f (by omega) (by rw [pre_0, List.filter_nil, List.append_nil]; exact hst) (by omega) _ _ _ (hP.sub [0, 1, 2, 3, 4, 5, 6, 7, 8] rfl) (hD.sub [0, 1, 2, 3, 4, 5, 6, 7, 8] (by decide) rfl) hS (lv_sub hl [1, 2, 0] rfl)

set_option maxHeartbeats 4000000 in
set_option maxRecDepth 100000 in
/-- Sites.firstNear -/
theorem tX3_firstNear (l : Launch) (D : va_G) (g : ClassId × ClassId × ClassId) (o : Nat) (a0 : Nat) (kn : Int) (f : Int → Int64) (BL : List jQ) (q : jQ) (p0 : Int) (p1 : Int) (p2 : Int) (p3 : Int) (hpq : q.2.2.1 = p0 ∧ q.2.2.2.1 = p1 ∧ q.2.2.2.2.1 = p2 ∧ q.2.2.2.2.2 = p3 ∧ okQ q) (hst : stI f BL) : jMi l D g yX3_firstNear wsX3_firstNear 3 110 [.ref o, .int (jI p0), .int (jI p1), .int (jI p2), .int (jI p3)] [(o, .inr (3, [.ref a0, .int (jI kn)])), (a0, .inl (g.2.1, 16000, .inr (.inl (aW f))))] (S := Unit) (fun z _ => fstP (isN BL q) z) (fun _ => [(o, .inr (3, [.ref a0, .int (jI kn)])), (a0, .inl (g.2.1, 16000, .inr (.inl (aW f))))]) := by
  refine jMi_of (cc := cX3_firstNear) (maxL := 12) (by decide) rfl (Nat.le_of_ble_eq_true rfl) ?_
  intro p e s m args below meth c Q A hx hb hml hts hown hK hA hret ls hl hP hD
  have hS : va_S A s.heap s.heap [] := va_S.rf
  have hown : s.vm.findClass RX3 = some m.cls := hown
  have f11 := hts (.fieldLink RX3 11 "AntennaFill$Sites" "closed" "[J") (by decide +kernel)
  have inX3 : ∀ w ∈ wsX30, w ∈ wsX3_firstNear := by decide +kernel
  have k52 := hts (.constantLong RX3 52 (-1)) (by decide +kernel)
  have hl : lv_has ls 12 [(0, .ref o), (1, .int (jI p0)), (2, .int (jI p1)), (3, .int (jI p2)), (4, .int (jI p3))] := hl
  have hok := hpq.2.2.2.2
  unfold okQ at hok
  refine lv_iload_n hx hb dX3_firstNear_0 rfl (lv_at hl 1 rfl) ?_
  refine jv_bipush hx hb (by decide) dX3_firstNear_1 ?_
  refine jc_Si (As := [.int (jI p0), .int (jI 20)]) (rest := []) (wq := [(o, .inr (3, [.ref a0, .int (jI kn)])), (a0, .inl (g.2.1, 16000, .inr (.inl (aW f))))]) ⟨hx, hb, hml, hown, hts⟩ (tX3_firstTouching l D g p0 20 (by omega)) (va_cwS 2 hts gX3_firstNear_X3_firstTouching rfl rfl rfl (by decide +kernel) ⟨Nat.le_of_ble_eq_true rfl, Nat.le_of_ble_eq_true rfl⟩) hK hP hD hS hA [] [0, 1] rfl rfl (by decide) (by decide) (by decide) rfl rfl hl.1 (Nat.le_of_ble_eq_true rfl) dX3_firstNear_3 ⟨Nat.le_refl 0, Nat.le_refl 0⟩ (fun fr9 u H locs hu hP hD hS => ?_)
  have hu : fr9 = max 2 (p0 - 4 - 20 + 1) := hu
  have hfr := hu
  have hP : va_P D jcl [(o, .inr (3, [.ref a0, .int (jI kn)])), (a0, .inl (g.2.1, 16000, .inr (.inl (aW f))))] H := hP
  have hD : va_D A [(o, .inr (3, [.ref a0, .int (jI kn)])), (a0, .inl (g.2.1, 16000, .inr (.inl (aW f))))] := hD
  refine lv_istore (lv' := [(5, .int (jI fr9)), (0, .ref o), (1, .int (jI p0)), (2, .int (jI p1)), (3, .int (jI p2)), (4, .int (jI p3))]) hx hb dX3_firstNear_6 hl (by decide) rfl (fun ls hl => ?_)
  refine lv_iload_n hx hb dX3_firstNear_8 rfl (lv_at hl 4 rfl) ?_
  refine jv_bipush hx hb (by decide) dX3_firstNear_9 ?_
  refine jc_Si (As := [.int (jI p2), .int (jI 20)]) (rest := []) (wq := [(o, .inr (3, [.ref a0, .int (jI kn)])), (a0, .inl (g.2.1, 16000, .inr (.inl (aW f))))]) ⟨hx, hb, hml, hown, hts⟩ (tX3_lastTouching l D g p2 20 (by omega)) (va_cwS 2 hts gX3_firstNear_X3_lastTouching rfl rfl rfl (by decide +kernel) ⟨Nat.le_of_ble_eq_true rfl, Nat.le_of_ble_eq_true rfl⟩) hK hP hD hS hA [] [0, 1] rfl rfl (by decide) (by decide) (by decide) rfl rfl hl.1 (Nat.le_of_ble_eq_true rfl) dX3_firstNear_11 ⟨Nat.le_refl 0, Nat.le_refl 0⟩ (fun to9 u H locs hu hP hD hS => ?_)
  have hu : to9 = min 994 (p2 + 20 - 1) := hu
  have hto9 := hu
  have hP : va_P D jcl [(o, .inr (3, [.ref a0, .int (jI kn)])), (a0, .inl (g.2.1, 16000, .inr (.inl (aW f))))] H := hP
  have hD : va_D A [(o, .inr (3, [.ref a0, .int (jI kn)])), (a0, .inl (g.2.1, 16000, .inr (.inl (aW f))))] := hD
  refine lv_istore (lv' := [(6, .int (jI to9)), (5, .int (jI fr9)), (0, .ref o), (1, .int (jI p0)), (2, .int (jI p1)), (3, .int (jI p2)), (4, .int (jI p3))]) hx hb dX3_firstNear_14 hl (by decide) rfl (fun ls hl => ?_)
  refine lv_iload hx hb dX3_firstNear_16 (lv_at hl 6 rfl) ?_
  refine jv_bipush hx hb (by decide) dX3_firstNear_18 ?_
  refine jc_Si (As := [.int (jI p3), .int (jI 20)]) (rest := []) (wq := [(o, .inr (3, [.ref a0, .int (jI kn)])), (a0, .inl (g.2.1, 16000, .inr (.inl (aW f))))]) ⟨hx, hb, hml, hown, hts⟩ (tX3_lastTouching l D g p3 20 (by omega)) (va_cwS 2 hts gX3_firstNear_X3_lastTouching rfl rfl rfl (by decide +kernel) ⟨Nat.le_of_ble_eq_true rfl, Nat.le_of_ble_eq_true rfl⟩) hK hP hD hS hA [] [0, 1] rfl rfl (by decide) (by decide) (by decide) rfl rfl hl.1 (Nat.le_of_ble_eq_true rfl) dX3_firstNear_20 ⟨Nat.le_refl 0, Nat.le_refl 0⟩ (fun tp9 u H locs hu hP hD hS => ?_)
  have hu : tp9 = min 994 (p3 + 20 - 1) := hu
  have htp9 := hu
  have hP : va_P D jcl [(o, .inr (3, [.ref a0, .int (jI kn)])), (a0, .inl (g.2.1, 16000, .inr (.inl (aW f))))] H := hP
  have hD : va_D A [(o, .inr (3, [.ref a0, .int (jI kn)])), (a0, .inl (g.2.1, 16000, .inr (.inl (aW f))))] := hD
  refine lv_istore (lv' := [(7, .int (jI tp9)), (6, .int (jI to9)), (5, .int (jI fr9)), (0, .ref o), (1, .int (jI p0)), (2, .int (jI p1)), (3, .int (jI p2)), (4, .int (jI p3))]) hx hb dX3_firstNear_23 hl (by decide) rfl (fun ls hl => ?_)
  refine lv_iload_n hx hb dX3_firstNear_25 rfl (lv_at hl 5 rfl) ?_
  refine jv_bipush hx hb (by decide) dX3_firstNear_26 ?_
  refine jc_Si (As := [.int (jI p1), .int (jI 20)]) (rest := []) (wq := [(o, .inr (3, [.ref a0, .int (jI kn)])), (a0, .inl (g.2.1, 16000, .inr (.inl (aW f))))]) ⟨hx, hb, hml, hown, hts⟩ (tX3_firstTouching l D g p1 20 (by omega)) (va_cwS 2 hts gX3_firstNear_X3_firstTouching rfl rfl rfl (by decide +kernel) ⟨Nat.le_of_ble_eq_true rfl, Nat.le_of_ble_eq_true rfl⟩) hK hP hD hS hA [] [0, 1] rfl rfl (by decide) (by decide) (by decide) rfl rfl hl.1 (Nat.le_of_ble_eq_true rfl) dX3_firstNear_28 ⟨Nat.le_refl 0, Nat.le_refl 0⟩ (fun yy0 u H locs hu hP hD hS => ?_)
  have hu : yy0 = max 2 (p1 - 4 - 20 + 1) := hu
  have hyy := hu
  have hP : va_P D jcl [(o, .inr (3, [.ref a0, .int (jI kn)])), (a0, .inl (g.2.1, 16000, .inr (.inl (aW f))))] H := hP
  have hD : va_D A [(o, .inr (3, [.ref a0, .int (jI kn)])), (a0, .inl (g.2.1, 16000, .inr (.inl (aW f))))] := hD
  have LO : ∀ (fuel : Nat) (y9 : Int), (yy0 ≤ y9 ∧ y9 ≤ max yy0 (tp9 + 1)) → (∀ x y, isN BL q x y → y9 ≤ y) → (tp9 + 1 - y9 < (fuel : Int)) → ∀ (H : Heap) (locs : List Loc) (ls : Array Slot), va_P D jcl [(o, .inr (3, [.ref a0, .int (jI kn)])), (a0, .inl (g.2.1, 16000, .inr (.inl (aW f))))] H → va_D A [(o, .inr (3, [.ref a0, .int (jI kn)])), (a0, .inl (g.2.1, 16000, .inr (.inl (aW f))))] → va_S A s.heap H locs → lv_has ls 12 [(0, .ref o), (5, .int (jI fr9)), (6, .int (jI to9)), (7, .int (jI tp9)), (8, .int (jI y9))] → W p l e (jR 3 110) s m args below meth c H locs 0 0 Q (F0 m 33 ls []) := by
    intro fuel
    induction fuel with
    | zero =>
      intro y9 hy h1 hfu
      exfalso; omega
    | succ fuel ihLO =>
      intro y9 hy h1 hfu H locs ls hP hD hS hl
      refine lv_iload hx hb dX3_firstNear_33 (lv_at hl 4 rfl) ?_
      refine lv_iload hx hb dX3_firstNear_35 (lv_at hl 3 rfl) ?_
      refine jv_icmp_gt (tgt := 124) hx hb ⟨by omega, by omega⟩ ⟨by omega, by omega⟩ dX3_firstNear_37 (by decide) (fun c37 => ?_) (fun c37 => ?_)
      · skip
        refine jv_iconst hx hb dX3_firstNear_124 ?_
        exact hret (-1) () _ _ _ _ (Or.inl ⟨rfl, fun x y h => by
              have q1 := h1 x y h
              unfold isN at h
              omega⟩) (hP.sub [0, 1] rfl) (hD.sub [0, 1] (by decide) rfl) hS dX3_firstNear_125
      · skip
        have LI : ∀ (fuel : Nat) (w9 : Int), (fr9 / 64 ≤ w9 ∧ w9 ≤ to9 / 64 + 1) → (∀ x y, isN BL q x y → y9 ≤ y ∧ (y = y9 → 64 * w9 ≤ x)) → (to9 / 64 + 1 - w9 < (fuel : Int)) → ∀ (H : Heap) (locs : List Loc) (ls : Array Slot), va_P D jcl [(o, .inr (3, [.ref a0, .int (jI kn)])), (a0, .inl (g.2.1, 16000, .inr (.inl (aW f))))] H → va_D A [(o, .inr (3, [.ref a0, .int (jI kn)])), (a0, .inl (g.2.1, 16000, .inr (.inl (aW f))))] → va_S A s.heap H locs → lv_has ls 12 [(0, .ref o), (5, .int (jI fr9)), (6, .int (jI to9)), (7, .int (jI tp9)), (8, .int (jI y9)), (9, .int (jI w9))] → W p l e (jR 3 110) s m args below meth c H locs 0 0 Q (F0 m 47 ls []) := by
          intro fuel
          induction fuel with
          | zero =>
            intro w9 hw h2 hfu
            exfalso; omega
          | succ fuel ihLI =>
            intro w9 hw h2 hfu H locs ls hP hD hS hl
            refine lv_iload hx hb dX3_firstNear_47 (lv_at hl 5 rfl) ?_
            refine lv_iload hx hb dX3_firstNear_49 (lv_at hl 2 rfl) ?_
            refine jv_bipush hx hb (by decide) dX3_firstNear_51 ?_
            refine jv_ishrN hx hb 6 64 rfl ⟨by omega, by omega, by omega⟩ (by decide) (by decide) dX3_firstNear_53 ?_
            refine jv_icmp_gt (tgt := 118) hx hb ⟨by omega, by omega⟩ ⟨by omega, by omega⟩ dX3_firstNear_54 (by decide) (fun c54 => ?_) (fun c54 => ?_)
            · skip
              refine jv_iinc (lv2 := [(8, .int (jI (y9 + 1))), (0, .ref o), (5, .int (jI fr9)), (6, .int (jI to9)), (7, .int (jI tp9)), (9, .int (jI w9))]) hx hb dX3_firstNear_118 hl (k := 4) rfl (by decide) rfl (fun ls hl => ?_)
              refine lv_goto (tgt := 33) hx hb dX3_firstNear_121 (by decide) ?_
              exact ihLO (y9 + 1) (by omega) (fun x y h => by
                            have q1 := h2 x y h
                            unfold isN at h
                            omega) (by omega) _ _ _ (hP.sub [0, 1] rfl) (hD.sub [0, 1] (by decide) rfl) hS (lv_sub hl [1, 2, 3, 4, 0] rfl)
            · skip
              refine lv_aload_n hx hb dX3_firstNear_57 rfl (lv_at hl 0 rfl) ?_
              refine va_get (D := D) (ci := 3) (v := .ref a0) (C := RX3) (T := TX3) (N := 2) hx hb hts inX3 hown hK hP 0 rfl rfl 0 (by decide) f11 (fun _ h9 => h9) rfl dX3_firstNear_58 ?_
              refine lv_iload hx hb dX3_firstNear_61 (lv_at hl 4 rfl) ?_
              refine jv_bipush hx hb (by decide) dX3_firstNear_63 ?_
              refine jv_imul hx hb dX3_firstNear_65 ?_
              refine lv_iload hx hb dX3_firstNear_66 (lv_at hl 5 rfl) ?_
              refine jv_iadd hx hb dX3_firstNear_68 ?_
              refine jv_wald hx hb hK hP 1 1 rfl rfl (i := ((y9 * 16) + w9)) ⟨by omega, by omega⟩ (Nat.le_of_ble_eq_true rfl) dX3_firstNear_69 ?_
              refine jv_ldc2 (n := (-1)) hx hb (by decide) hown k52 dX3_firstNear_70 ?_
              refine lv_lxor hx hb dX3_firstNear_73 ?_
              refine lv_iload hx hb dX3_firstNear_74 (lv_at hl 5 rfl) ?_
              refine lv_iload hx hb dX3_firstNear_76 (lv_at hl 1 rfl) ?_
              refine lv_iload hx hb dX3_firstNear_78 (lv_at hl 2 rfl) ?_
              refine jc_Sl (As := [.int (jI w9), .int (jI fr9), .int (jI to9)]) (rest := [.long ((f ((y9 * 16) + w9)) ^^^ (jL (-1)))]) (wq := [(o, .inr (3, [.ref a0, .int (jI kn)])), (a0, .inl (g.2.1, 16000, .inr (.inl (aW f))))]) ⟨hx, hb, hml, hown, hts⟩ (tX3_bitsBetween l D g w9 fr9 to9 (by omega)) (va_cwS 3 hts gX3_firstNear_X3_bitsBetween rfl rfl rfl (by decide +kernel) ⟨Nat.le_of_ble_eq_true rfl, Nat.le_of_ble_eq_true rfl⟩) hK hP hD hS hA [] [0, 1] rfl rfl (by decide) (by decide) (by decide) rfl rfl hl.1 (Nat.le_of_ble_eq_true rfl) dX3_firstNear_80 ⟨Nat.le_refl 0, Nat.le_refl 0⟩ (fun m9 u H locs hu hP hD hS => ?_)
              have hu : mspec m9 fr9 (to9 + 1) w9 := hu
              have hm9 := hu
              have hP : va_P D jcl [(o, .inr (3, [.ref a0, .int (jI kn)])), (a0, .inl (g.2.1, 16000, .inr (.inl (aW f))))] H := hP
              have hD : va_D A [(o, .inr (3, [.ref a0, .int (jI kn)])), (a0, .inl (g.2.1, 16000, .inr (.inl (aW f))))] := hD
              have hop : ∀ {b : Nat}, b < 64 → (wb ((f (y9 * 16 + w9) ^^^ jL (-1)) &&& m9) b = true ↔ isN BL q (64 * w9 + b) y9) := fun hb => opn hst hm9 (by omega) (by omega) ⟨⟨by omega, by omega⟩, by omega, by omega⟩ (by omega) ⟨by omega, by omega⟩ hb
              refine lv_land hx hb dX3_firstNear_83 ?_
              refine lv_lstore (lv' := [(10, .long (((f ((y9 * 16) + w9)) ^^^ (jL (-1))) &&& m9)), (0, .ref o), (5, .int (jI fr9)), (6, .int (jI to9)), (7, .int (jI tp9)), (8, .int (jI y9)), (9, .int (jI w9))]) hx hb dX3_firstNear_84 hl (by decide) rfl (fun ls hl => ?_)
              refine lv_lload hx hb dX3_firstNear_86 (lv_at hl 0 rfl) ?_
              refine jv_lconst0 hx hb dX3_firstNear_88 ?_
              refine jw_lcmp_eq (x := (((f ((y9 * 16) + w9)) ^^^ (jL (-1))) &&& m9)) (y := (jL 0)) (tgt := 112) hx hb dX3_firstNear_89 dX3_firstNear_90 (by decide) (fun c89 => ?_) (fun c89 => ?_)
              · skip
                refine jv_iinc (lv2 := [(9, .int (jI (w9 + 1))), (10, .long (((f ((y9 * 16) + w9)) ^^^ (jL (-1))) &&& m9)), (0, .ref o), (5, .int (jI fr9)), (6, .int (jI to9)), (7, .int (jI tp9)), (8, .int (jI y9))]) hx hb dX3_firstNear_112 hl (k := 6) rfl (by decide) rfl (fun ls hl => ?_)
                refine lv_goto (tgt := 47) hx hb dX3_firstNear_115 (by decide) ?_
                exact ihLI (w9 + 1) (by omega) (fun x y h => by
                              have q1 := h2 x y h
                              refine ⟨q1.1, fun q2 => ?_⟩
                              rcases Int.lt_or_le x (64 * (w9 + 1)) with q3 | q3
                              · exfalso
                                have q4 := (hop (b := (x - 64 * w9).toNat) (by omega)).mpr (by rw [show 64 * w9 + (((x - 64 * w9).toNat : Nat) : Int) = x by omega, ← q2]; exact h)
                                rw [c89, wb_0] at q4
                                exact Bool.noConfusion q4
                              · exact q3) (by omega) _ _ _ (hP.sub [0, 1] rfl) (hD.sub [0, 1] (by decide) rfl) hS (lv_sub hl [2, 3, 4, 5, 6, 0] rfl)
              · skip
                refine lv_iload hx hb dX3_firstNear_93 (lv_at hl 5 rfl) ?_
                refine jv_sipush hx hb (by decide) dX3_firstNear_95 ?_
                refine jv_imul hx hb dX3_firstNear_98 ?_
                refine lv_iload hx hb dX3_firstNear_99 (lv_at hl 6 rfl) ?_
                refine jv_bipush hx hb (by decide) dX3_firstNear_101 ?_
                refine jv_imul hx hb dX3_firstNear_103 ?_
                refine jv_iadd hx hb dX3_firstNear_104 ?_
                refine lv_lload hx hb dX3_firstNear_105 (lv_at hl 0 rfl) ?_
                refine jc_Si (As := [.long (((f ((y9 * 16) + w9)) ^^^ (jL (-1))) &&& m9)]) (rest := [.int (jI ((y9 * 1000) + (w9 * 64)))]) (wq := [(o, .inr (3, [.ref a0, .int (jI kn)])), (a0, .inl (g.2.1, 16000, .inr (.inl (aW f))))]) ⟨hx, hb, hml, hown, hts⟩ (tJ13_ntz l D g (((f ((y9 * 16) + w9)) ^^^ (jL (-1))) &&& m9) (c89)) (va_cwS 1 hts gX3_firstNear_J13_numberOfTrailingZeros_95d88 rfl rfl rfl (by decide +kernel) ⟨Nat.le_of_ble_eq_true rfl, Nat.le_of_ble_eq_true rfl⟩) hK hP hD hS hA [] [0, 1] rfl rfl (by decide) (by decide) (by decide) rfl rfl hl.1 (Nat.le_of_ble_eq_true rfl) dX3_firstNear_107 ⟨Nat.le_refl 0, Nat.le_refl 0⟩ (fun b9 u H locs hu hP hD hS => ?_)
                have hu : (0 ≤ b9 ∧ b9 < 64) ∧ wb (((f ((y9 * 16) + w9)) ^^^ (jL (-1))) &&& m9) b9.toNat = true ∧ ∀ b : Nat, (b : Int) < b9 → wb (((f ((y9 * 16) + w9)) ^^^ (jL (-1))) &&& m9) b = false := hu
                obtain ⟨g1, g2, g3⟩ := hu
                have hP : va_P D jcl [(o, .inr (3, [.ref a0, .int (jI kn)])), (a0, .inl (g.2.1, 16000, .inr (.inl (aW f))))] H := hP
                have hD : va_D A [(o, .inr (3, [.ref a0, .int (jI kn)])), (a0, .inl (g.2.1, 16000, .inr (.inl (aW f))))] := hD
                have hN := (hop (b := b9.toNat) (by omega)).mp g2
                rw [show 64 * w9 + ((b9.toNat : Nat) : Int) = 64 * w9 + b9 by omega] at hN
                refine jv_iadd hx hb dX3_firstNear_110 ?_
                exact hret (((y9 * 1000) + (w9 * 64)) + b9) () _ _ _ _ (by
                      refine Or.inr ⟨64 * w9 + b9, y9, by omega, hN, fun x2 y2 h => ?_⟩
                      have q1 := h2 x2 y2 h
                      have q5 := h
                      unfold isN at q5
                      rcases Int.lt_or_le x2 (64 * w9 + b9) with q3 | q3
                      · rcases Int.lt_or_le y9 y2 with q6 | q6
                        · unfold isN at hN
                          omega
                        · exfalso
                          have q7 : y2 = y9 := by omega
                          have q8 := q1.2 q7
                          have q4 := (hop (b := (x2 - 64 * w9).toNat) (by omega)).mpr (by rw [show 64 * w9 + (((x2 - 64 * w9).toNat : Nat) : Int) = x2 by omega, ← q7]; exact h)
                          rw [g3 _ (by omega)] at q4
                          exact Bool.noConfusion q4
                      · omega) (hP.sub [0, 1] rfl) (hD.sub [0, 1] (by decide) rfl) hS dX3_firstNear_111
        refine lv_iload hx hb dX3_firstNear_40 (lv_at hl 1 rfl) ?_
        refine jv_bipush hx hb (by decide) dX3_firstNear_42 ?_
        refine jv_ishrN hx hb 6 64 rfl ⟨by omega, by omega, by omega⟩ (by decide) (by decide) dX3_firstNear_44 ?_
        refine lv_istore (lv' := [(9, .int (jI (fr9 / 64))), (0, .ref o), (5, .int (jI fr9)), (6, .int (jI to9)), (7, .int (jI tp9)), (8, .int (jI y9))]) hx hb dX3_firstNear_45 hl (by decide) rfl (fun ls hl => ?_)
        exact LI ((to9 / 64 + 1 - (fr9 / 64)).toNat + 1) (fr9 / 64) (by omega) (fun x y h => ⟨h1 x y h, fun _ => by unfold isN at h; omega⟩) (by omega) _ _ _ (hP.sub [0, 1] rfl) (hD.sub [0, 1] (by decide) rfl) hS (lv_sub hl [1, 2, 3, 4, 5, 0] rfl)
  refine lv_istore (lv' := [(8, .int (jI yy0)), (7, .int (jI tp9)), (6, .int (jI to9)), (5, .int (jI fr9)), (0, .ref o), (1, .int (jI p0)), (2, .int (jI p1)), (3, .int (jI p2)), (4, .int (jI p3))]) hx hb dX3_firstNear_31 hl (by decide) rfl (fun ls hl => ?_)
  exact LO ((tp9 + 1 - yy0).toNat + 1) yy0 (by omega) (fun x y h => by unfold isN at h; omega) (by omega) _ _ _ (hP.sub [0, 1] rfl) (hD.sub [0, 1] (by decide) rfl) hS (lv_sub hl [4, 3, 2, 1, 0] rfl)
