/-! what the law's start gives: the throws' words, strings and statics; the classes; the method cell -/
theorem st_x9 : ∀ w ∈ jX9, w ∈ lw_tbl := lw_mem [442, 358, 464, 360, 362, 364] (by decide +kernel)
def jStrW : List Cond := jStr.map fun q => Cond.stringRef RX4 q.1 q.2
theorem st_str : ∀ w ∈ jStrW, w ∈ lw_tbl := lw_mem [397, 460, 471, 524, 532, 550, 649, 449, 522] (by decide +kernel)
def jStrX : List Cond := jStr.map fun q => Cond.exactly (Term.string RX4 q.1) "java/lang/String"
theorem st_strx : ∀ w ∈ jStrX, w ∈ flatC (Jvm.Cond.and given_1 narrow_1) := by decide +kernel
def jNcW : List Cond := [.not (.castable xI xS), .not (.castable xI xA), .not (.castable xS xI), .not (.castable xS xA), .not (.castable xA xI), .not (.castable xA xS)]
theorem st_nc : ∀ w ∈ jNcW, w ∈ flatC (Jvm.Cond.and given_1 narrow_1) := by decide +kernel
theorem st_r1 : Cond.isRef (.static Bundle.tN "UNASSIGNED_STACK" Bundle.steD) ∈ flatC (Jvm.Cond.and given_1 narrow_1) := by decide +kernel
theorem st_r2 : Cond.isRef (.static Bundle.tN "SUPPRESSED_SENTINEL" Bundle.listD) ∈ flatC (Jvm.Cond.and given_1 narrow_1) := by decide +kernel
theorem st_E {s : State} {b : Nat} (hts : ∀ w ∈ lw_tbl, w.before #[Value.ref b] s = true) (hgv : (Jvm.Cond.and given_1 narrow_1).before #[Value.ref b] s = true) : jE (fun q => s.heap.size ≤ q) s s.heap := by
  have hf := flat_of_before _ hgv
  refine ⟨fun w hw => jX9_mv (Vm.Alike.refl s.vm) w hw (hts w (st_x9 w hw)), fun q hq => ?_, ?_, ?_⟩
  · obtain ⟨a, c9, cA, kA, q1, -⟩ := Cond.exactly_spec (args := #[Value.ref b]) (first := s) (o := none) (s := s) (idx := []) (t := Term.string RX4 q.1) (cls := "java/lang/String") (hf _ (st_strx _ (List.mem_map.mpr ⟨q, hq, rfl⟩)))
    exact ⟨a, vk_R.of (hts _ (st_str _ (List.mem_map.mpr ⟨q, hq, rfl⟩))) q1⟩
  · exact vx_Zqof (hts _ (List.mem_of_getElem? (i := 383) (by decide +kernel))) (hts _ (List.mem_of_getElem? (i := 47) (by decide +kernel))) (hf _ st_r1) (fun a h1 h2 => absurd h1 (Nat.not_lt.mpr h2))
  · exact vx_Zqof (hts _ (List.mem_of_getElem? (i := 385) (by decide +kernel))) (hts _ (List.mem_of_getElem? (i := 47) (by decide +kernel))) (hf _ st_r2) (fun a h1 h2 => absurd h1 (Nat.not_lt.mpr h2))
theorem st_N {s : State} {b : Nat} (hgv : (Jvm.Cond.and given_1 narrow_1).before #[Value.ref b] s = true) : jNc s := by
  have hf := flat_of_before _ hgv
  have h : ∀ w ∈ jNcW, w.before #[Value.ref b] s = true := fun w hw => hf w (st_nc w hw)
  exact ⟨va_Nc.of (h _ (List.mem_of_getElem? (i := 0) rfl)), va_Nc.of (h _ (List.mem_of_getElem? (i := 1) rfl)), va_Nc.of (h _ (List.mem_of_getElem? (i := 2) rfl)), va_Nc.of (h _ (List.mem_of_getElem? (i := 3) rfl)), va_Nc.of (h _ (List.mem_of_getElem? (i := 4) rfl)), va_Nc.of (h _ (List.mem_of_getElem? (i := 5) rfl))⟩
theorem st_arr {s : State} {args : Array Value} {ty : FieldType} (h : (Cond.arrayClass ty).before args s = true) : ∃ cA : ClassId, ArrOfT s cA ty ∧ s.vm.findClass ("[" ++ ty.toString) = some cA := by
  obtain ⟨cA, kA, comp, h1, h2, h3⟩ := Cond.arrayClass_spec h
  exact ⟨cA, fun n z => ⟨fun k h => (by cases h), kA, h2, comp, h3⟩, h1⟩
theorem st_K {s : State} {b : Nat} (hts : ∀ w ∈ lw_tbl, w.before #[Value.ref b] s = true) : ∃ (D : va_G) (g : ClassId × ClassId × ClassId), va_K D jcl (jT g) s := by
  obtain ⟨c0, i0, h0⟩ := u_known (C := RX0) (T := TX0) (N := 7) (n := 7) hts inX0 (hts (.instantiable RX0 7) (List.mem_of_getElem? (i := 70) (by decide +kernel)))
  obtain ⟨c1, i1, h1⟩ := u_known (C := RX1) (T := TX1) (N := 12) (n := 12) hts inX1 (hts (.instantiable RX1 12) (List.mem_of_getElem? (i := 126) (by decide +kernel)))
  obtain ⟨c2, i2, h2⟩ := u_known (C := RX2) (T := TX2) (N := 6) (n := 6) hts inX2 (hts (.instantiable RX2 6) (List.mem_of_getElem? (i := 183) (by decide +kernel)))
  obtain ⟨c3, i3, h3⟩ := u_known (C := RX3) (T := TX3) (N := 2) (n := 2) hts inX3 (hts (.instantiable RX3 2) (List.mem_of_getElem? (i := 170) (by decide +kernel)))
  obtain ⟨c4, i4, h4⟩ := u_known (C := RX4) (T := TX4) (N := 19) (n := 19) hts inX4 (hts (.instantiable RX4 19) (List.mem_of_getElem? (i := 56) (by decide +kernel)))
  obtain ⟨c5, i5, h5⟩ := u_known (C := RX5) (T := TX5) (N := 31) (n := 31) hts inX5 (hts (.instantiable RX5 31) (List.mem_of_getElem? (i := 680) (by decide +kernel)))
  obtain ⟨ai, hai1, hai2⟩ := st_arr (hts (.arrayClass .int) (List.mem_of_getElem? (i := 124) (by decide +kernel)))
  obtain ⟨al, hal1, hal2⟩ := st_arr (hts (.arrayClass .long) (List.mem_of_getElem? (i := 123) (by decide +kernel)))
  obtain ⟨az, haz1, haz2⟩ := st_arr (hts (.arrayClass .boolean) (List.mem_of_getElem? (i := 168) (by decide +kernel)))
  refine ⟨(fun k => match k with | 0 => c0 | 1 => c1 | 2 => c2 | 3 => c3 | 4 => c4 | _ => c5, fun k => match k with | 0 => i0 | 1 => i1 | 2 => i2 | 3 => i3 | 4 => i4 | _ => i5), (ai, al, az), ?_, ?_⟩
  · intro k q hq
    match k, hq with
    | 0, hq => cases hq; exact h0
    | 1, hq => cases hq; exact h1
    | 2, hq => cases hq; exact h2
    | 3, hq => cases hq; exact h3
    | 4, hq => cases hq; exact h4
    | 5, hq => cases hq; exact h5
    | k + 6, hq => simp [jcl] at hq
  · intro k q hq
    match k, hq with
    | 0, hq => cases hq; exact ⟨hai1, hai2⟩
    | 1, hq => cases hq; exact ⟨hal1, hal2⟩
    | 2, hq => cases hq; exact ⟨haz1, haz2⟩
    | k + 3, hq => simp [jT] at hq

theorem jNest_bl (D : va_G) (g : ClassId × ClassId × ClassId) (ws : va_W) (sz : Nat) (av : List Value) : FrameBlind (va_Pc av (fun U => jPc D g ws sz U ∧ ∀ z ∈ jNest, va_Nw z U)) := by
  intro a U f mk q
  obtain ⟨q0, q1, q2⟩ := q
  refine ⟨q0, (jPc_blind D g ws sz av a U f mk ⟨q0, q1⟩).2, fun z hz => ?_⟩
  have h := q2 z hz
  simp only [List.mem_cons, List.not_mem_nil, or_false] at hz
  rcases hz with rfl | rfl
  · exact va_Nw.same (u := U) (U := U.calling f mk a) rfl rfl h
  · exact va_Nw.same (u := U) (U := U.calling f mk a) rfl rfl h
set_option maxHeartbeats 4000000 in
set_option maxRecDepth 100000 in
theorem tL_cell (l : Launch) (b L : Nat) (xs : Nat → Int32) (hL : L ≤ 705) : Met l yL_cell wsL_cell (jR 1 26) (va_Pc [.ref b, .int (jI 0)] (fun U => va_X b L xs U U.heap)) (va_Qi (fun r (_ : Unit) => r = jI (if 0 < (L : Int) then sx xs 0 else 0)) (fun _ _ => True) (fun _ => False)) 0 0 (fun _ => False) := by
  refine Met.ofW (cc := cL_cell) (maxL := 2) (ret := (some .int)) (by decide) rfl ?_
  intro p e s m args below meth c s₁ B hml hv
  obtain ⟨rfl, hX⟩ := hv
  have hx := B.exec
  have hb := B.bytes
  have hr := B.returns
  have hlocks := B.notSynchronized
  have hbl : b < s.heap.size := by
    obtain ⟨scr, h1, -⟩ := hX
    exact (Array.getElem?_eq_some_iff.mp h1).1
  have hbA : ¬ (fun _ : Nat => False) b := fun h => h
  have hS : va_S (fun _ : Nat => False) s.heap s.heap [] := va_S.rf
  have hl := lv_entry ([.ref b, .int (jI 0)]) (n := 2) (Nat.le_of_ble_eq_true rfl)
  rw [lg_entry_eq]
  generalize (lg_sl ([.ref b, .int (jI 0)]) ++ List.replicate (2 - (lg_sl ([.ref b, .int (jI 0)])).length) Slot.unset).toArray = ls at hl ⊢
  have hl : lv_has ls 2 [(0, .ref b), (1, .int (jI 0))] := hl
  refine lv_iload_n hx hb dL_cell_0 rfl (lv_at hl 1 rfl) ?_
  refine lv_aload_n hx hb dL_cell_1 rfl (lv_at hl 0 rfl) ?_
  refine js_len hx hb hX hbl hbA hS dL_cell_2 ?_
  refine jv_icmp_ge (tgt := 12) hx hb ⟨by decide, by decide⟩ ⟨by omega, by omega⟩ dL_cell_3 (by decide) (fun c3 => ?_) (fun c3 => ?_)
  · refine jv_iconst hx hb dL_cell_12 ?_
    exact W.iret (v := jI 0) hx hb hr (fun t ht hW => ⟨⟨jI 0, (), rfl, by rw [if_neg (by omega)], trivial⟩, hS.F ht⟩) hS.2.2 dL_cell_13
  · refine lv_aload_n hx hb dL_cell_6 rfl (lv_at hl 0 rfl) ?_
    refine lv_iload_n hx hb dL_cell_7 rfl (lv_at hl 1 rfl) ?_
    refine js_ld (i := 0) hx hb hX hbl hbA hS ⟨by omega, by omega⟩ hL dL_cell_8 ?_
    refine lv_goto (tgt := 13) hx hb dL_cell_9 (by decide) ?_
    exact W.iret (v := jI (sx xs 0)) hx hb hr (fun t ht hW => ⟨⟨jI (sx xs 0), (), rfl, by rw [if_pos (by omega)], trivial⟩, hS.F ht⟩) hS.2.2 dL_cell_13
