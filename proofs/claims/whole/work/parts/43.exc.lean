/-! the throws of the class: what a method that may throw needs of its start, and its contract -/
abbrev xI : String := "java/lang/IndexOutOfBoundsException"
abbrev xS : String := "java/lang/IllegalStateException"
abbrev xA : String := "java/lang/IllegalArgumentException"
abbrev xN : List String := ["java/lang/RuntimeException", "java/lang/Exception"]
abbrev jX9 : List Cond := [.castable xI xI, .castable xS xS, .castable xA xA, .declares (Bundle.initS "java/lang/RuntimeException"), .declares (Bundle.initS "java/lang/Exception"), .declares (Bundle.initS Bundle.tN)]
abbrev jStr : List (Nat × String) := [(92, "there are 40 nets"), (106, "there are 200 shapes"), (112, "not a rectangle of the plane"), (141, "too much gate area"), (146, "100 diodes were told"), (166, "a limit's number is out of its range"), (228, "below 0"), (243, "there is no such one"), (245, "a number is out of its range")]
abbrev jThr : List (String × Nat × Nat) := [(xI, 226, 230), (xS, 90, 94), (xA, 110, 114)]
def jE (A : Nat → Prop) (U : State) (H : Heap) : Prop := (∀ w ∈ jX9, w.before #[] U = true) ∧ (∀ q ∈ jStr, ∃ sa : Nat, vk_R RX4 q.1 q.2 sa U) ∧ vx_Zq Bundle.tN "UNASSIGNED_STACK" Bundle.steD A U H ∧ vx_Zq Bundle.tN "SUPPRESSED_SENTINEL" Bundle.listD A U H
theorem jX9_mv {s U : State} {a a2 : Array Value} (hv : s.vm.Alike U.vm) : ∀ w ∈ jX9, w.before a s = true → w.before a2 U = true := by
  have key : ∀ w : Cond, w.onTables = true → w.before a (s.setVm U.vm) = w.before a s → w.before a s = true → w.before a2 U = true := by
    intro w h1 h2 h3
    have e := Cond.onTables_vm (A := a2) (A' := a) (U := U) (U' := s) U.vm w h1
    rw [State.setVm_self] at e
    rw [e, h2, h3]
  intro w hw
  simp only [List.mem_cons, List.not_mem_nil, or_false] at hw
  rcases hw with rfl | rfl | rfl | rfl | rfl | rfl
  · exact key _ rfl (Cond.castable_setVm hv _ _)
  · exact key _ rfl (Cond.castable_setVm hv _ _)
  · exact key _ rfl (Cond.castable_setVm hv _ _)
  · exact key _ rfl (Cond.declares_setVm hv _)
  · exact key _ rfl (Cond.declares_setVm hv _)
  · exact key _ rfl (Cond.declares_setVm hv _)
theorem jE_mv {A B : Nat → Prop} {s U : State} {H : Heap} {locs : List Loc} (h : jE A s s.heap) (hS : va_S A s.heap H locs) (hW : s.WarmedH U.vm) (hF : ∀ q, B q → A q) : jE B U H := by
  obtain ⟨h1, h2, h3, h4⟩ := h
  refine ⟨fun w hw => jX9_mv hW.alike w hw (h1 w hw), fun q hq => ?_, ((h3.kept hS.2.1).moved hW.alike).narrow hF, ((h4.kept hS.2.1).moved hW.alike).narrow hF⟩
  obtain ⟨sa, hs⟩ := h2 q hq
  exact ⟨sa, hs.warm hW⟩
abbrev jRx (fr lo mc ms : Nat) : Room := { frames := fr, cells := mc, slots := ms, locals := lo }
def jPx (D : va_G) (g : ClassId × ClassId × ClassId) (ws : va_W) (sz : Nat) : State → Prop := fun U => jPc D g ws sz U ∧ jE (va_A ws sz) U U.heap
def jXC (D : va_G) (ws : va_W) (sz : Nat) (xp : String → Prop) : String → State → State → Prop := vx_X (fun _ : Unit => True) (fun E _ t => xp E ∧ va_P D jcl ws t.heap ∧ va_D (va_A ws sz) ws) (va_A ws sz)
def jXi (l : Launch) (D : va_G) (g : ClassId × ClassId × ClassId) (y : MethodName) (w : List Cond) (fr lo mc ms : Nat) (av : List Value) (ws : va_W) {S : Type} (post : Int → S → Prop) (wr : S → va_W) (xp : String → Prop) : Prop :=
  ∀ sz : Nat, vx_Met l y w (jRx fr lo mc ms) (va_Pc av (jPx D g ws sz)) (va_Qi (fun r u => ∃ z : Int, r = jI z ∧ post z u) (jB D ws wr sz) (va_A ws sz)) (jXC D ws sz xp) mc ms (va_A ws sz)
def jXl (l : Launch) (D : va_G) (g : ClassId × ClassId × ClassId) (y : MethodName) (w : List Cond) (fr lo mc ms : Nat) (av : List Value) (ws : va_W) {S : Type} (post : Int64 → S → Prop) (wr : S → va_W) (xp : String → Prop) : Prop :=
  ∀ sz : Nat, vx_Met l y w (jRx fr lo mc ms) (va_Pc av (jPx D g ws sz)) (va_Ql post (jB D ws wr sz) (va_A ws sz)) (jXC D ws sz xp) mc ms (va_A ws sz)
def jXv (l : Launch) (D : va_G) (g : ClassId × ClassId × ClassId) (y : MethodName) (w : List Cond) (fr lo mc ms : Nat) (av : List Value) (ws : va_W) {S : Type} (post : S → Prop) (wr : S → va_W) (xp : String → Prop) : Prop :=
  ∀ sz : Nat, vx_Met l y w (jRx fr lo mc ms) (va_Pc av (jPx D g ws sz)) (va_Qv post (jB D ws wr sz) (va_A ws sz)) (jXC D ws sz xp) mc ms (va_A ws sz)
section JX2
variable {p : Program} {l : Launch} {e : Env} {R : Room} {s : State} {m : MethodId} {args : Array Value} {below : List Frame} {meth : Method} {c : Code} {H : Heap} {locs : List Loc} {cells slots : Nat} {Q : State → Prop}
variable {cc bytes : ByteArray} {pc nL maxL index n fr lo mc ms : Nat} {ls : Array Slot} {st0 rest : List Value} {D : va_G} {g : ClassId × ClassId × ClassId} {ws wc wq : va_W} {A : Nat → Prop} {S : Type} {wr : S → va_W} {y : MethodName} {w ws9 Ts : List Cond} {ret : Option FieldType} {own C : String} {b : Nat} {As av : List Value} {xp : String → Prop}
theorem jPx_blind (D : va_G) (g : ClassId × ClassId × ClassId) (ws : va_W) (sz : Nat) (av : List Value) : FrameBlind (va_Pc av (jPx D g ws sz)) := by
  intro a U f mk q
  obtain ⟨q0, ⟨q1, qP, qK, qD⟩, qE⟩ := q
  exact ⟨q0, ⟨q1, qP, va_K.moved (u := U) (U := U.calling f mk a) (Vm.Alike.refl U.vm) qK, qD⟩, jE_mv (s := U) (U := U.calling f mk a) qE va_S.rf (State.WarmedH.refl U) (fun _ h => h)⟩
theorem jPx_pre (hK : va_K D jcl (jT g) s) (hP : va_P D jcl ws H) (hD : va_D A ws) (hS : va_S A s.heap H locs) (hE : jE A s s.heap) (hF : ∀ q, va_A wc H.size q → A q) (isC : List Nat) (hC : isC.map (fun i => ws[i]?) = wc.map some) (hn : va_nd isC = true) {U : State} (hU : U.heap = H) (hW : s.WarmedH U.vm) : jPx D g wc H.size U :=
  ⟨jPc_pre hK hP hD isC hC hn hU hW, by rw [hU]; exact jE_mv hE hS hW hF⟩
variable {post : Int → S → Prop} {postl : Int64 → S → Prop} {postv : S → Prop}
theorem jxc_Vi (F : CallFix p m c cc nL s args Ts own) (hM : jXi l D g y w fr lo mc ms (.ref b :: As) wc post wr xp) (hcw : CallW R s args own C index y bytes maxL ret w (jRx fr lo mc ms) mc ms n) (hK : va_K D jcl (jT g) s) (hP : va_P D jcl ws H) (hD : va_D A ws) (hS : va_S A s.heap H locs) (hA : ∀ q, s.heap.size ≤ q → A q) (hE : jE A s s.heap) (isC isR : List Nat) (hC : isC.map (fun i => ws[i]?) = wc.map some) (hR : isR.map (fun i => ws[i]?) = wq.map some) (hnC : va_nd isC = true) (hn : va_nd isR = true) (hdis : ∀ i ∈ isR, i ∉ isC)
    (hrecv : ∃ cellB : Cell, H[b]? = some cellB ∧ cellB.vm.isStatics = false ∧ s.vm.findClass C = some cellB.cls) (hst : st0 = As.reverse ++ .ref b :: rest) (hln : As.length = n) (hsize : ls.size = nL) (hroom : (rest.map fun v => v.category).sum ≤ 8) (hdg : decode cc pc = .ok (.invokevirtual index, 3)) (hf : cells + mc ≤ R.cells ∧ slots + ms ≤ R.slots)
    (kx : ∀ (E : String) (ce : Cell) (q9 : Addr) (H1 : Heap) (locs1 : List Loc), xp E → va_P D jcl (wq ++ wc) H1 → va_D A (wq ++ wc) → va_S A s.heap H1 locs1 → H1[q9]? = some ce → ce.vm = .none → s.vm.findClass E = some ce.cls → vx_W p l e R s m args below meth c H1 locs1 (cells + mc) (slots + ms) Q (F0 m pc ls rest) q9)
    (kk : ∀ (z : Int) (u : S) (H1 : Heap) (locs1 : List Loc), post z u → va_P D jcl (wq ++ wr u) H1 → va_D A (wq ++ wr u) → va_S A s.heap H1 locs1 → W p l e R s m args below meth c H1 locs1 (cells + mc) (slots + ms) Q (F0 m (pc + 3) ls (.int (jI z) :: rest))) : W p l e R s m args below meth c H locs cells slots Q (F0 m pc ls st0) := by
  have hF := va_free hD hS hA isC hC
  refine vx_calli (vx_runV F (hM H.size) hcw ⟨jPx_blind D g wc H.size _, hrecv, fun U hU hW => ⟨rfl, jPx_pre hK hP hD hS hE hF isC hC hnC hU hW⟩⟩ rfl hln hsize hst (lv_room hroom) hdg hf) hS (fun q _ h => hF q h) hF (fun q _ h => hF q h) (fun E ce q9 u t H1 locs1 ht _ _ hx _ hk hS hce hcv hcl => ?_) (fun r u t H1 locs1 ht _ hw hB _ hk hS => ?_)
  · obtain ⟨hx1, hx2, hx3⟩ := hx
    obtain ⟨hP1, hD1⟩ := jc_join (S := Unit) (wr := fun _ => wc) (u := ()) hP hD isC isR hC hR hn hdis hF ht ⟨hx2, hx3⟩ hk
    exact kx E ce q9 H1 locs1 hx1 hP1 hD1 hS hce hcv hcl
  obtain ⟨z, rfl, hz⟩ := hw
  obtain ⟨hP1, hD1⟩ := jc_join hP hD isC isR hC hR hn hdis hF ht hB hk
  exact kk z u H1 locs1 hz hP1 hD1 hS
theorem jxc_Vl (F : CallFix p m c cc nL s args Ts own) (hM : jXl l D g y w fr lo mc ms (.ref b :: As) wc postl wr xp) (hcw : CallW R s args own C index y bytes maxL ret w (jRx fr lo mc ms) mc ms n) (hK : va_K D jcl (jT g) s) (hP : va_P D jcl ws H) (hD : va_D A ws) (hS : va_S A s.heap H locs) (hA : ∀ q, s.heap.size ≤ q → A q) (hE : jE A s s.heap) (isC isR : List Nat) (hC : isC.map (fun i => ws[i]?) = wc.map some) (hR : isR.map (fun i => ws[i]?) = wq.map some) (hnC : va_nd isC = true) (hn : va_nd isR = true) (hdis : ∀ i ∈ isR, i ∉ isC)
    (hrecv : ∃ cellB : Cell, H[b]? = some cellB ∧ cellB.vm.isStatics = false ∧ s.vm.findClass C = some cellB.cls) (hst : st0 = As.reverse ++ .ref b :: rest) (hln : As.length = n) (hsize : ls.size = nL) (hroom : (rest.map fun v => v.category).sum ≤ 8) (hdg : decode cc pc = .ok (.invokevirtual index, 3)) (hf : cells + mc ≤ R.cells ∧ slots + ms ≤ R.slots)
    (kx : ∀ (E : String) (ce : Cell) (q9 : Addr) (H1 : Heap) (locs1 : List Loc), xp E → va_P D jcl (wq ++ wc) H1 → va_D A (wq ++ wc) → va_S A s.heap H1 locs1 → H1[q9]? = some ce → ce.vm = .none → s.vm.findClass E = some ce.cls → vx_W p l e R s m args below meth c H1 locs1 (cells + mc) (slots + ms) Q (F0 m pc ls rest) q9)
    (kk : ∀ (z : Int64) (u : S) (H1 : Heap) (locs1 : List Loc), postl z u → va_P D jcl (wq ++ wr u) H1 → va_D A (wq ++ wr u) → va_S A s.heap H1 locs1 → W p l e R s m args below meth c H1 locs1 (cells + mc) (slots + ms) Q (F0 m (pc + 3) ls (.long z :: rest))) : W p l e R s m args below meth c H locs cells slots Q (F0 m pc ls st0) := by
  have hF := va_free hD hS hA isC hC
  refine vx_calll (vx_runV F (hM H.size) hcw ⟨jPx_blind D g wc H.size _, hrecv, fun U hU hW => ⟨rfl, jPx_pre hK hP hD hS hE hF isC hC hnC hU hW⟩⟩ rfl hln hsize hst (lv_room hroom) hdg hf) hS (fun q _ h => hF q h) hF (fun q _ h => hF q h) (fun E ce q9 u t H1 locs1 ht _ _ hx _ hk hS hce hcv hcl => ?_) (fun z u t H1 locs1 ht _ hw hB _ hk hS => ?_)
  · obtain ⟨hx1, hx2, hx3⟩ := hx
    obtain ⟨hP1, hD1⟩ := jc_join (S := Unit) (wr := fun _ => wc) (u := ()) hP hD isC isR hC hR hn hdis hF ht ⟨hx2, hx3⟩ hk
    exact kx E ce q9 H1 locs1 hx1 hP1 hD1 hS hce hcv hcl
  obtain ⟨hP1, hD1⟩ := jc_join hP hD isC isR hC hR hn hdis hF ht hB hk
  exact kk z u H1 locs1 hw hP1 hD1 hS
theorem jxc_Vv (F : CallFix p m c cc nL s args Ts own) (hM : jXv l D g y w fr lo mc ms (.ref b :: As) wc postv wr xp) (hcw : CallW R s args own C index y bytes maxL ret w (jRx fr lo mc ms) mc ms n) (hK : va_K D jcl (jT g) s) (hP : va_P D jcl ws H) (hD : va_D A ws) (hS : va_S A s.heap H locs) (hA : ∀ q, s.heap.size ≤ q → A q) (hE : jE A s s.heap) (isC isR : List Nat) (hC : isC.map (fun i => ws[i]?) = wc.map some) (hR : isR.map (fun i => ws[i]?) = wq.map some) (hnC : va_nd isC = true) (hn : va_nd isR = true) (hdis : ∀ i ∈ isR, i ∉ isC)
    (hrecv : ∃ cellB : Cell, H[b]? = some cellB ∧ cellB.vm.isStatics = false ∧ s.vm.findClass C = some cellB.cls) (hst : st0 = As.reverse ++ .ref b :: rest) (hln : As.length = n) (hsize : ls.size = nL) (hroom : (rest.map fun v => v.category).sum ≤ 8) (hdg : decode cc pc = .ok (.invokevirtual index, 3)) (hf : cells + mc ≤ R.cells ∧ slots + ms ≤ R.slots)
    (kx : ∀ (E : String) (ce : Cell) (q9 : Addr) (H1 : Heap) (locs1 : List Loc), xp E → va_P D jcl (wq ++ wc) H1 → va_D A (wq ++ wc) → va_S A s.heap H1 locs1 → H1[q9]? = some ce → ce.vm = .none → s.vm.findClass E = some ce.cls → vx_W p l e R s m args below meth c H1 locs1 (cells + mc) (slots + ms) Q (F0 m pc ls rest) q9)
    (kk : ∀ (u : S) (H1 : Heap) (locs1 : List Loc), postv u → va_P D jcl (wq ++ wr u) H1 → va_D A (wq ++ wr u) → va_S A s.heap H1 locs1 → W p l e R s m args below meth c H1 locs1 (cells + mc) (slots + ms) Q (F0 m (pc + 3) ls rest)) : W p l e R s m args below meth c H locs cells slots Q (F0 m pc ls st0) := by
  have hF := va_free hD hS hA isC hC
  refine vx_callv (vx_runV F (hM H.size) hcw ⟨jPx_blind D g wc H.size _, hrecv, fun U hU hW => ⟨rfl, jPx_pre hK hP hD hS hE hF isC hC hnC hU hW⟩⟩ rfl hln hsize hst (lv_room hroom) hdg hf) hS (fun q _ h => hF q h) hF (fun q _ h => hF q h) (fun E ce q9 u t H1 locs1 ht _ _ hx _ hk hS hce hcv hcl => ?_) (fun u t H1 locs1 ht _ hw hB _ hk hS => ?_)
  · obtain ⟨hx1, hx2, hx3⟩ := hx
    obtain ⟨hP1, hD1⟩ := jc_join (S := Unit) (wr := fun _ => wc) (u := ()) hP hD isC isR hC hR hn hdis hF ht ⟨hx2, hx3⟩ hk
    exact kx E ce q9 H1 locs1 hx1 hP1 hD1 hS hce hcv hcl
  obtain ⟨hP1, hD1⟩ := jc_join hP hD isC isR hC hR hn hdis hF ht hB hk
  exact kk u H1 locs1 hw hP1 hD1 hS
theorem jxc_Si (F : CallFix p m c cc nL s args Ts own) (hM : jXi l D g y w fr lo mc ms As wc post wr xp) (hcw : CallB R s args own index y bytes maxL ret w (jRx fr lo mc ms) mc ms n ∧ (Cond.static y).before args s = true) (hK : va_K D jcl (jT g) s) (hP : va_P D jcl ws H) (hD : va_D A ws) (hS : va_S A s.heap H locs) (hA : ∀ q, s.heap.size ≤ q → A q) (hE : jE A s s.heap) (isC isR : List Nat) (hC : isC.map (fun i => ws[i]?) = wc.map some) (hR : isR.map (fun i => ws[i]?) = wq.map some) (hnC : va_nd isC = true) (hn : va_nd isR = true) (hdis : ∀ i ∈ isR, i ∉ isC)
    (hst : st0 = As.reverse ++ rest) (hln : As.length = n) (hsize : ls.size = nL) (hroom : (rest.map fun v => v.category).sum ≤ 8) (hdg : decode cc pc = .ok (.invokestatic index, 3)) (hf : cells + mc ≤ R.cells ∧ slots + ms ≤ R.slots)
    (kx : ∀ (E : String) (ce : Cell) (q9 : Addr) (H1 : Heap) (locs1 : List Loc), xp E → va_P D jcl (wq ++ wc) H1 → va_D A (wq ++ wc) → va_S A s.heap H1 locs1 → H1[q9]? = some ce → ce.vm = .none → s.vm.findClass E = some ce.cls → vx_W p l e R s m args below meth c H1 locs1 (cells + mc) (slots + ms) Q (F0 m pc ls rest) q9)
    (kk : ∀ (z : Int) (u : S) (H1 : Heap) (locs1 : List Loc), post z u → va_P D jcl (wq ++ wr u) H1 → va_D A (wq ++ wr u) → va_S A s.heap H1 locs1 → W p l e R s m args below meth c H1 locs1 (cells + mc) (slots + ms) Q (F0 m (pc + 3) ls (.int (jI z) :: rest))) : W p l e R s m args below meth c H locs cells slots Q (F0 m pc ls st0) := by
  have hF := va_free hD hS hA isC hC
  refine vx_calli (vx_runS F (hM H.size) hcw ⟨jPx_blind D g wc H.size _, fun U hU hW => ⟨rfl, jPx_pre hK hP hD hS hE hF isC hC hnC hU hW⟩⟩ rfl hln hsize hst (lv_room hroom) hdg hf) hS (fun q _ h => hF q h) hF (fun q _ h => hF q h) (fun E ce q9 u t H1 locs1 ht _ _ hx _ hk hS hce hcv hcl => ?_) (fun r u t H1 locs1 ht _ hw hB _ hk hS => ?_)
  · obtain ⟨hx1, hx2, hx3⟩ := hx
    obtain ⟨hP1, hD1⟩ := jc_join (S := Unit) (wr := fun _ => wc) (u := ()) hP hD isC isR hC hR hn hdis hF ht ⟨hx2, hx3⟩ hk
    exact kx E ce q9 H1 locs1 hx1 hP1 hD1 hS hce hcv hcl
  obtain ⟨z, rfl, hz⟩ := hw
  obtain ⟨hP1, hD1⟩ := jc_join hP hD isC isR hC hR hn hdis hF ht hB hk
  exact kk z u H1 locs1 hz hP1 hD1 hS
theorem jxc_Sl (F : CallFix p m c cc nL s args Ts own) (hM : jXl l D g y w fr lo mc ms As wc postl wr xp) (hcw : CallB R s args own index y bytes maxL ret w (jRx fr lo mc ms) mc ms n ∧ (Cond.static y).before args s = true) (hK : va_K D jcl (jT g) s) (hP : va_P D jcl ws H) (hD : va_D A ws) (hS : va_S A s.heap H locs) (hA : ∀ q, s.heap.size ≤ q → A q) (hE : jE A s s.heap) (isC isR : List Nat) (hC : isC.map (fun i => ws[i]?) = wc.map some) (hR : isR.map (fun i => ws[i]?) = wq.map some) (hnC : va_nd isC = true) (hn : va_nd isR = true) (hdis : ∀ i ∈ isR, i ∉ isC)
    (hst : st0 = As.reverse ++ rest) (hln : As.length = n) (hsize : ls.size = nL) (hroom : (rest.map fun v => v.category).sum ≤ 8) (hdg : decode cc pc = .ok (.invokestatic index, 3)) (hf : cells + mc ≤ R.cells ∧ slots + ms ≤ R.slots)
    (kx : ∀ (E : String) (ce : Cell) (q9 : Addr) (H1 : Heap) (locs1 : List Loc), xp E → va_P D jcl (wq ++ wc) H1 → va_D A (wq ++ wc) → va_S A s.heap H1 locs1 → H1[q9]? = some ce → ce.vm = .none → s.vm.findClass E = some ce.cls → vx_W p l e R s m args below meth c H1 locs1 (cells + mc) (slots + ms) Q (F0 m pc ls rest) q9)
    (kk : ∀ (z : Int64) (u : S) (H1 : Heap) (locs1 : List Loc), postl z u → va_P D jcl (wq ++ wr u) H1 → va_D A (wq ++ wr u) → va_S A s.heap H1 locs1 → W p l e R s m args below meth c H1 locs1 (cells + mc) (slots + ms) Q (F0 m (pc + 3) ls (.long z :: rest))) : W p l e R s m args below meth c H locs cells slots Q (F0 m pc ls st0) := by
  have hF := va_free hD hS hA isC hC
  refine vx_calll (vx_runS F (hM H.size) hcw ⟨jPx_blind D g wc H.size _, fun U hU hW => ⟨rfl, jPx_pre hK hP hD hS hE hF isC hC hnC hU hW⟩⟩ rfl hln hsize hst (lv_room hroom) hdg hf) hS (fun q _ h => hF q h) hF (fun q _ h => hF q h) (fun E ce q9 u t H1 locs1 ht _ _ hx _ hk hS hce hcv hcl => ?_) (fun z u t H1 locs1 ht _ hw hB _ hk hS => ?_)
  · obtain ⟨hx1, hx2, hx3⟩ := hx
    obtain ⟨hP1, hD1⟩ := jc_join (S := Unit) (wr := fun _ => wc) (u := ()) hP hD isC isR hC hR hn hdis hF ht ⟨hx2, hx3⟩ hk
    exact kx E ce q9 H1 locs1 hx1 hP1 hD1 hS hce hcv hcl
  obtain ⟨hP1, hD1⟩ := jc_join hP hD isC isR hC hR hn hdis hF ht hB hk
  exact kk z u H1 locs1 hw hP1 hD1 hS
theorem jxc_Sv (F : CallFix p m c cc nL s args Ts own) (hM : jXv l D g y w fr lo mc ms As wc postv wr xp) (hcw : CallB R s args own index y bytes maxL ret w (jRx fr lo mc ms) mc ms n ∧ (Cond.static y).before args s = true) (hK : va_K D jcl (jT g) s) (hP : va_P D jcl ws H) (hD : va_D A ws) (hS : va_S A s.heap H locs) (hA : ∀ q, s.heap.size ≤ q → A q) (hE : jE A s s.heap) (isC isR : List Nat) (hC : isC.map (fun i => ws[i]?) = wc.map some) (hR : isR.map (fun i => ws[i]?) = wq.map some) (hnC : va_nd isC = true) (hn : va_nd isR = true) (hdis : ∀ i ∈ isR, i ∉ isC)
    (hst : st0 = As.reverse ++ rest) (hln : As.length = n) (hsize : ls.size = nL) (hroom : (rest.map fun v => v.category).sum ≤ 8) (hdg : decode cc pc = .ok (.invokestatic index, 3)) (hf : cells + mc ≤ R.cells ∧ slots + ms ≤ R.slots)
    (kx : ∀ (E : String) (ce : Cell) (q9 : Addr) (H1 : Heap) (locs1 : List Loc), xp E → va_P D jcl (wq ++ wc) H1 → va_D A (wq ++ wc) → va_S A s.heap H1 locs1 → H1[q9]? = some ce → ce.vm = .none → s.vm.findClass E = some ce.cls → vx_W p l e R s m args below meth c H1 locs1 (cells + mc) (slots + ms) Q (F0 m pc ls rest) q9)
    (kk : ∀ (u : S) (H1 : Heap) (locs1 : List Loc), postv u → va_P D jcl (wq ++ wr u) H1 → va_D A (wq ++ wr u) → va_S A s.heap H1 locs1 → W p l e R s m args below meth c H1 locs1 (cells + mc) (slots + ms) Q (F0 m (pc + 3) ls rest)) : W p l e R s m args below meth c H locs cells slots Q (F0 m pc ls st0) := by
  have hF := va_free hD hS hA isC hC
  refine vx_callv (vx_runS F (hM H.size) hcw ⟨jPx_blind D g wc H.size _, fun U hU hW => ⟨rfl, jPx_pre hK hP hD hS hE hF isC hC hnC hU hW⟩⟩ rfl hln hsize hst (lv_room hroom) hdg hf) hS (fun q _ h => hF q h) hF (fun q _ h => hF q h) (fun E ce q9 u t H1 locs1 ht _ _ hx _ hk hS hce hcv hcl => ?_) (fun u t H1 locs1 ht _ hw hB _ hk hS => ?_)
  · obtain ⟨hx1, hx2, hx3⟩ := hx
    obtain ⟨hP1, hD1⟩ := jc_join (S := Unit) (wr := fun _ => wc) (u := ()) hP hD isC isR hC hR hn hdis hF ht ⟨hx2, hx3⟩ hk
    exact kx E ce q9 H1 locs1 hx1 hP1 hD1 hS hce hcv hcl
  obtain ⟨hP1, hD1⟩ := jc_join hP hD isC isR hC hR hn hdis hF ht hB hk
  exact kk u H1 locs1 hw hP1 hD1 hS
theorem jThr_fit {j : Nat} {E : String} {ik ic : Nat} (h : jThr[j]? = some (E, ik, ic)) : Bundle.fit E = true := by
  have hm := List.mem_of_getElem? h
  simp only [List.mem_cons, List.not_mem_nil, or_false, Prod.mk.injEq] at hm
  rcases hm with ⟨rfl, -, -⟩ | ⟨rfl, -, -⟩ | ⟨rfl, -, -⟩ <;> decide +kernel
theorem jThr_bad {j : Nat} {E : String} {ik ic : Nat} (h : jThr[j]? = some (E, ik, ic)) : ∀ w ∈ (vx_atS RX4 ic E xN).filter (fun w => !goodWord w), w ∈ jX9 := by
  have hm := List.mem_of_getElem? h
  simp only [List.mem_cons, List.not_mem_nil, or_false, Prod.mk.injEq] at hm
  rcases hm with ⟨rfl, rfl, rfl⟩ | ⟨rfl, rfl, rfl⟩ | ⟨rfl, rfl, rfl⟩ <;> decide +kernel
theorem jThr_ot {j : Nat} {E : String} {ik ic : Nat} (h : jThr[j]? = some (E, ik, ic)) : ∀ w ∈ Cond.classLink RX4 ik E :: Cond.initialized E :: vx_atS RX4 ic E xN, vx_ot w = true := by
  have hm := List.mem_of_getElem? h
  simp only [List.mem_cons, List.not_mem_nil, or_false, Prod.mk.injEq] at hm
  rcases hm with ⟨rfl, rfl, rfl⟩ | ⟨rfl, rfl, rfl⟩ | ⟨rfl, rfl, rfl⟩ <;> decide +kernel
theorem jXi_of {ws9 : List Cond} (hfl : l.stackTraces = false) (hy : plainName y.cls = true) (hyc : y.cls = RX4) (hw : w = Cond.code y cc maxL (some .int) :: ws9) (hfit : (lg_sl av).length ≤ maxL) (hfr : 6 ≤ fr) (hlo : 82 ≤ lo)
    (body : ∀ (p : Program) (e : Env) (s : State) (m : MethodId) (args : Array Value) (below : List Frame) (meth : Method) (c : Code) (Q : State → Prop) (A : Nat → Prop), p.tables.exec = Jvm.exec → c.code = cc → c.maxLocals = maxL → (∀ x ∈ w, x.before args s = true) → s.vm.findClass y.cls = some m.cls → va_K D jcl (jT g) s → (∀ q : Nat, s.heap.size ≤ q → A q) → jE A s s.heap →
      (∀ (z : Int) (u : S) (H : Heap) (locs : List Loc) (cells slots pc : Nat) (ls : Array Slot), post z u → va_P D jcl (wr u) H → va_D A (wr u) → va_S A s.heap H locs → decode cc pc = .ok (.ireturn, 1) → cells ≤ mc → slots ≤ ms → W p l e (jRx fr lo mc ms) s m args below meth c H locs cells slots Q (F0 m pc ls [.int (jI z)])) →
      (∀ (j i : Nat) (E : String) (ik ic is : Nat) (tx : String) (H : Heap) (locs : List Loc) (cells slots pc : Nat) (ls : Array Slot), jThr[j]? = some (E, ik, ic) → jStr[i]? = some (is, tx) → (∀ x ∈ Cond.classLink RX4 ik E :: Cond.initialized E :: (vx_atS RX4 ic E xN).filter goodWord, x ∈ w) → xp E → va_P D jcl ws H → va_S A s.heap H locs → ls.size = maxL → decode cc pc = .ok (.new ik, 3) → decode cc (pc + 3) = .ok (.dup, 1) → decode cc (pc + 4) = .ok (.ldc is, 2) → decode cc (pc + 6) = .ok (.invokespecial ic, 3) → decode cc (pc + 9) = .ok (.athrow, 1) → cells + 1 ≤ mc → slots + 6 ≤ ms → W p l e (jRx fr lo mc ms) s m args below meth c H locs cells slots Q (F0 m pc ls [])) →
      (∀ (E : String) (ce : Cell) (q9 : Addr) (H : Heap) (locs : List Loc) (cells slots pc : Nat) (ls : Array Slot) (rest : List Value), xp E → va_P D jcl ws H → va_S A s.heap H locs → H[q9]? = some ce → ce.vm = .none → s.vm.findClass E = some ce.cls → cells ≤ mc → slots ≤ ms → vx_W p l e (jRx fr lo mc ms) s m args below meth c H locs cells slots Q (F0 m pc ls rest) q9) →
      ∀ ls : Array Slot, lv_has ls maxL (lv_args 0 av) → va_P D jcl ws s.heap → va_D A ws → W p l e (jRx fr lo mc ms) s m args below meth c s.heap [] 0 0 Q (F0 m 0 ls [])) : jXi l D g y w fr lo mc ms av ws post wr xp := by
  intro sz
  refine vx_ofW (cc := cc) (maxL := maxL) (ret := (some .int)) hy hw ?_
  intro p e s m args below meth c s₁ B hml hnt hv
  obtain ⟨rfl, ⟨hsz, hP, hK, hD0⟩, hE⟩ := hv
  have hlocks := B.notSynchronized
  have hr := B.returns
  have hts := atoms_spec (ws := w) B.pre
  have hown := findClass_of_methodNamed B.named
  subst hsz
  have hl := lv_entry av (n := maxL) hfit
  rw [lg_entry_eq]
  generalize (lg_sl av ++ List.replicate (maxL - (lg_sl av).length) Slot.unset).toArray = ls at hl ⊢
  refine body p e s m av.toArray below meth c _ (va_A ws s.heap.size) B.exec B.bytes hml hts hown hK (fun q h => Or.inr h) hE ?_ ?_ ?_ ls hl hP hD0.self
  · intro z u H locs cells slots pc ls h1 h2 h3 hS hdg hc hs
    refine vx_ret (W.widen hc hs ?_)
    exact W.iret (v := jI z) B.exec B.bytes hr (fun t ht hW => ⟨⟨jI z, u, rfl, ⟨z, rfl, h1⟩, by rw [ht]; exact h2, h3⟩, hS.F ht⟩) hS.2.2 hdg
  · intro j i E ik ic is tx H locs cells slots pc ls hj hi hwd hxp hP hS hsize d0 d3 d4 d6 d9 hc hs
    obtain ⟨hE1, hE2, hE3, hE4⟩ := hE
    obtain ⟨sa, hstr⟩ := hE2 _ (List.mem_of_getElem? hi)
    have hwd2 : ∀ x ∈ Cond.classLink RX4 ik E :: Cond.initialized E :: (vx_atS RX4 ic E xN).filter goodWord, x.before av.toArray s = true := fun x hx => hts x (hwd x hx)
    have hcl : ∀ x ∈ c.exceptionTable.toList, covers x (pc + 9) = false := fun x hx => absurd hx (fun q => hnt x q)
    have hE1' : ∀ w ∈ jX9, w.before av.toArray s = true := fun w hw => jX9_mv (Vm.Alike.refl s.vm) w hw (hE1 w hw)
    have hat : ∀ w ∈ vx_atS RX4 ic E xN, w.before av.toArray s = true := vx_hat (B := jX9) (fun w hw => hwd2 w (List.mem_cons_of_mem _ (List.mem_cons_of_mem _ hw))) (jThr_bad hj) hE1'
    refine vx_throwS (own := RX4) (cls := E) (text := tx) (names := xN) (ik := ik) (is := is) (ic := ic) (sa := sa) (A := va_A ws s.heap.size) B.exec B.bytes hfl (hyc ▸ hown) (jThr_fit hj) (by decide) (hwd2 _ List.mem_cons_self) (hwd2 _ (List.mem_cons_of_mem _ List.mem_cons_self)) hstr hat (jThr_ot hj) hE3 hE4 hS (hsize.trans hml.symm) d0 d3 d4 d6 d9 hcl (by show 5 < fr; omega) (by show 0 + 82 ≤ lo; omega) (by show cells + 1 ≤ mc; exact hc) (by show slots + 6 ≤ ms; exact hs) hlocks (fun t _ hz hk => ⟨(), trivial, ⟨hxp, hP.kept (fun k q hq => hk q.1 (vx_lt hP hq)), hD0.self⟩, ⟨Nat.le_trans hS.1 hz, fun q h1 h2 => by rw [hk q (Nat.lt_of_lt_of_le h1 hS.1)]; exact hS.2.1 q h1 h2⟩⟩) hS.2.2 hc hs
  · intro E ce q9 H locs cells slots pc ls rest hxp hP hS hce hcv hcl hc hs
    exact vx_out (fun x hx => absurd hx (fun q => hnt x q)) hlocks hce hcv hcl (fun t ht _ => ⟨(), trivial, ⟨hxp, by rw [ht]; exact hP, hD0.self⟩, hS.F ht⟩) hS.2.2 hc hs
theorem jXz_of {ws9 : List Cond} (hfl : l.stackTraces = false) (hy : plainName y.cls = true) (hyc : y.cls = RX4) (hw : w = Cond.code y cc maxL (some .boolean) :: ws9) (hfit : (lg_sl av).length ≤ maxL) (hfr : 6 ≤ fr) (hlo : 82 ≤ lo)
    (body : ∀ (p : Program) (e : Env) (s : State) (m : MethodId) (args : Array Value) (below : List Frame) (meth : Method) (c : Code) (Q : State → Prop) (A : Nat → Prop), p.tables.exec = Jvm.exec → c.code = cc → c.maxLocals = maxL → (∀ x ∈ w, x.before args s = true) → s.vm.findClass y.cls = some m.cls → va_K D jcl (jT g) s → (∀ q : Nat, s.heap.size ≤ q → A q) → jE A s s.heap →
      (∀ (z : Int) (u : S) (H : Heap) (locs : List Loc) (cells slots pc : Nat) (ls : Array Slot), (z = 0 ∨ z = 1) → post z u → va_P D jcl (wr u) H → va_D A (wr u) → va_S A s.heap H locs → decode cc pc = .ok (.ireturn, 1) → cells ≤ mc → slots ≤ ms → W p l e (jRx fr lo mc ms) s m args below meth c H locs cells slots Q (F0 m pc ls [.int (jI z)])) →
      (∀ (j i : Nat) (E : String) (ik ic is : Nat) (tx : String) (H : Heap) (locs : List Loc) (cells slots pc : Nat) (ls : Array Slot), jThr[j]? = some (E, ik, ic) → jStr[i]? = some (is, tx) → (∀ x ∈ Cond.classLink RX4 ik E :: Cond.initialized E :: (vx_atS RX4 ic E xN).filter goodWord, x ∈ w) → xp E → va_P D jcl ws H → va_S A s.heap H locs → ls.size = maxL → decode cc pc = .ok (.new ik, 3) → decode cc (pc + 3) = .ok (.dup, 1) → decode cc (pc + 4) = .ok (.ldc is, 2) → decode cc (pc + 6) = .ok (.invokespecial ic, 3) → decode cc (pc + 9) = .ok (.athrow, 1) → cells + 1 ≤ mc → slots + 6 ≤ ms → W p l e (jRx fr lo mc ms) s m args below meth c H locs cells slots Q (F0 m pc ls [])) →
      (∀ (E : String) (ce : Cell) (q9 : Addr) (H : Heap) (locs : List Loc) (cells slots pc : Nat) (ls : Array Slot) (rest : List Value), xp E → va_P D jcl ws H → va_S A s.heap H locs → H[q9]? = some ce → ce.vm = .none → s.vm.findClass E = some ce.cls → cells ≤ mc → slots ≤ ms → vx_W p l e (jRx fr lo mc ms) s m args below meth c H locs cells slots Q (F0 m pc ls rest) q9) →
      ∀ ls : Array Slot, lv_has ls maxL (lv_args 0 av) → va_P D jcl ws s.heap → va_D A ws → W p l e (jRx fr lo mc ms) s m args below meth c s.heap [] 0 0 Q (F0 m 0 ls [])) : jXi l D g y w fr lo mc ms av ws post wr xp := by
  intro sz
  refine vx_ofW (cc := cc) (maxL := maxL) (ret := (some .boolean)) hy hw ?_
  intro p e s m args below meth c s₁ B hml hnt hv
  obtain ⟨rfl, ⟨hsz, hP, hK, hD0⟩, hE⟩ := hv
  have hlocks := B.notSynchronized
  have hr := B.returns
  have hts := atoms_spec (ws := w) B.pre
  have hown := findClass_of_methodNamed B.named
  subst hsz
  have hl := lv_entry av (n := maxL) hfit
  rw [lg_entry_eq]
  generalize (lg_sl av ++ List.replicate (maxL - (lg_sl av).length) Slot.unset).toArray = ls at hl ⊢
  refine body p e s m av.toArray below meth c _ (va_A ws s.heap.size) B.exec B.bytes hml hts hown hK (fun q h => Or.inr h) hE ?_ ?_ ?_ ls hl hP hD0.self
  · intro z u H locs cells slots pc ls hz h1 h2 h3 hS hdg hc hs
    refine vx_ret (W.widen hc hs ?_)
    exact W.zret (v := jI z) (ty := .boolean) B.exec B.bytes hr (by rcases hz with rfl | rfl <;> decide) (fun t ht hW => ⟨⟨jI z, u, rfl, ⟨z, rfl, h1⟩, by rw [ht]; exact h2, h3⟩, hS.F ht⟩) hS.2.2 hdg
  · intro j i E ik ic is tx H locs cells slots pc ls hj hi hwd hxp hP hS hsize d0 d3 d4 d6 d9 hc hs
    obtain ⟨hE1, hE2, hE3, hE4⟩ := hE
    obtain ⟨sa, hstr⟩ := hE2 _ (List.mem_of_getElem? hi)
    have hwd2 : ∀ x ∈ Cond.classLink RX4 ik E :: Cond.initialized E :: (vx_atS RX4 ic E xN).filter goodWord, x.before av.toArray s = true := fun x hx => hts x (hwd x hx)
    have hcl : ∀ x ∈ c.exceptionTable.toList, covers x (pc + 9) = false := fun x hx => absurd hx (fun q => hnt x q)
    have hE1' : ∀ w ∈ jX9, w.before av.toArray s = true := fun w hw => jX9_mv (Vm.Alike.refl s.vm) w hw (hE1 w hw)
    have hat : ∀ w ∈ vx_atS RX4 ic E xN, w.before av.toArray s = true := vx_hat (B := jX9) (fun w hw => hwd2 w (List.mem_cons_of_mem _ (List.mem_cons_of_mem _ hw))) (jThr_bad hj) hE1'
    refine vx_throwS (own := RX4) (cls := E) (text := tx) (names := xN) (ik := ik) (is := is) (ic := ic) (sa := sa) (A := va_A ws s.heap.size) B.exec B.bytes hfl (hyc ▸ hown) (jThr_fit hj) (by decide) (hwd2 _ List.mem_cons_self) (hwd2 _ (List.mem_cons_of_mem _ List.mem_cons_self)) hstr hat (jThr_ot hj) hE3 hE4 hS (hsize.trans hml.symm) d0 d3 d4 d6 d9 hcl (by show 5 < fr; omega) (by show 0 + 82 ≤ lo; omega) (by show cells + 1 ≤ mc; exact hc) (by show slots + 6 ≤ ms; exact hs) hlocks (fun t _ hz hk => ⟨(), trivial, ⟨hxp, hP.kept (fun k q hq => hk q.1 (vx_lt hP hq)), hD0.self⟩, ⟨Nat.le_trans hS.1 hz, fun q h1 h2 => by rw [hk q (Nat.lt_of_lt_of_le h1 hS.1)]; exact hS.2.1 q h1 h2⟩⟩) hS.2.2 hc hs
  · intro E ce q9 H locs cells slots pc ls rest hxp hP hS hce hcv hcl hc hs
    exact vx_out (fun x hx => absurd hx (fun q => hnt x q)) hlocks hce hcv hcl (fun t ht _ => ⟨(), trivial, ⟨hxp, by rw [ht]; exact hP, hD0.self⟩, hS.F ht⟩) hS.2.2 hc hs
theorem jXl_of {ws9 : List Cond} (hfl : l.stackTraces = false) (hy : plainName y.cls = true) (hyc : y.cls = RX4) (hw : w = Cond.code y cc maxL (some .long) :: ws9) (hfit : (lg_sl av).length ≤ maxL) (hfr : 6 ≤ fr) (hlo : 82 ≤ lo)
    (body : ∀ (p : Program) (e : Env) (s : State) (m : MethodId) (args : Array Value) (below : List Frame) (meth : Method) (c : Code) (Q : State → Prop) (A : Nat → Prop), p.tables.exec = Jvm.exec → c.code = cc → c.maxLocals = maxL → (∀ x ∈ w, x.before args s = true) → s.vm.findClass y.cls = some m.cls → va_K D jcl (jT g) s → (∀ q : Nat, s.heap.size ≤ q → A q) → jE A s s.heap →
      (∀ (z : Int64) (u : S) (H : Heap) (locs : List Loc) (cells slots pc : Nat) (ls : Array Slot), postl z u → va_P D jcl (wr u) H → va_D A (wr u) → va_S A s.heap H locs → decode cc pc = .ok (.lreturn, 1) → cells ≤ mc → slots ≤ ms → W p l e (jRx fr lo mc ms) s m args below meth c H locs cells slots Q (F0 m pc ls [.long z])) →
      (∀ (j i : Nat) (E : String) (ik ic is : Nat) (tx : String) (H : Heap) (locs : List Loc) (cells slots pc : Nat) (ls : Array Slot), jThr[j]? = some (E, ik, ic) → jStr[i]? = some (is, tx) → (∀ x ∈ Cond.classLink RX4 ik E :: Cond.initialized E :: (vx_atS RX4 ic E xN).filter goodWord, x ∈ w) → xp E → va_P D jcl ws H → va_S A s.heap H locs → ls.size = maxL → decode cc pc = .ok (.new ik, 3) → decode cc (pc + 3) = .ok (.dup, 1) → decode cc (pc + 4) = .ok (.ldc is, 2) → decode cc (pc + 6) = .ok (.invokespecial ic, 3) → decode cc (pc + 9) = .ok (.athrow, 1) → cells + 1 ≤ mc → slots + 6 ≤ ms → W p l e (jRx fr lo mc ms) s m args below meth c H locs cells slots Q (F0 m pc ls [])) →
      (∀ (E : String) (ce : Cell) (q9 : Addr) (H : Heap) (locs : List Loc) (cells slots pc : Nat) (ls : Array Slot) (rest : List Value), xp E → va_P D jcl ws H → va_S A s.heap H locs → H[q9]? = some ce → ce.vm = .none → s.vm.findClass E = some ce.cls → cells ≤ mc → slots ≤ ms → vx_W p l e (jRx fr lo mc ms) s m args below meth c H locs cells slots Q (F0 m pc ls rest) q9) →
      ∀ ls : Array Slot, lv_has ls maxL (lv_args 0 av) → va_P D jcl ws s.heap → va_D A ws → W p l e (jRx fr lo mc ms) s m args below meth c s.heap [] 0 0 Q (F0 m 0 ls [])) : jXl l D g y w fr lo mc ms av ws postl wr xp := by
  intro sz
  refine vx_ofW (cc := cc) (maxL := maxL) (ret := (some .long)) hy hw ?_
  intro p e s m args below meth c s₁ B hml hnt hv
  obtain ⟨rfl, ⟨hsz, hP, hK, hD0⟩, hE⟩ := hv
  have hlocks := B.notSynchronized
  have hr := B.returns
  have hts := atoms_spec (ws := w) B.pre
  have hown := findClass_of_methodNamed B.named
  subst hsz
  have hl := lv_entry av (n := maxL) hfit
  rw [lg_entry_eq]
  generalize (lg_sl av ++ List.replicate (maxL - (lg_sl av).length) Slot.unset).toArray = ls at hl ⊢
  refine body p e s m av.toArray below meth c _ (va_A ws s.heap.size) B.exec B.bytes hml hts hown hK (fun q h => Or.inr h) hE ?_ ?_ ?_ ls hl hP hD0.self
  · intro z u H locs cells slots pc ls h1 h2 h3 hS hdg hc hs
    refine vx_ret (W.widen hc hs ?_)
    exact W.lret (v := z) B.exec B.bytes hr (fun t ht hW => ⟨⟨z, u, rfl, h1, by rw [ht]; exact h2, h3⟩, hS.F ht⟩) hS.2.2 hdg
  · intro j i E ik ic is tx H locs cells slots pc ls hj hi hwd hxp hP hS hsize d0 d3 d4 d6 d9 hc hs
    obtain ⟨hE1, hE2, hE3, hE4⟩ := hE
    obtain ⟨sa, hstr⟩ := hE2 _ (List.mem_of_getElem? hi)
    have hwd2 : ∀ x ∈ Cond.classLink RX4 ik E :: Cond.initialized E :: (vx_atS RX4 ic E xN).filter goodWord, x.before av.toArray s = true := fun x hx => hts x (hwd x hx)
    have hcl : ∀ x ∈ c.exceptionTable.toList, covers x (pc + 9) = false := fun x hx => absurd hx (fun q => hnt x q)
    have hE1' : ∀ w ∈ jX9, w.before av.toArray s = true := fun w hw => jX9_mv (Vm.Alike.refl s.vm) w hw (hE1 w hw)
    have hat : ∀ w ∈ vx_atS RX4 ic E xN, w.before av.toArray s = true := vx_hat (B := jX9) (fun w hw => hwd2 w (List.mem_cons_of_mem _ (List.mem_cons_of_mem _ hw))) (jThr_bad hj) hE1'
    refine vx_throwS (own := RX4) (cls := E) (text := tx) (names := xN) (ik := ik) (is := is) (ic := ic) (sa := sa) (A := va_A ws s.heap.size) B.exec B.bytes hfl (hyc ▸ hown) (jThr_fit hj) (by decide) (hwd2 _ List.mem_cons_self) (hwd2 _ (List.mem_cons_of_mem _ List.mem_cons_self)) hstr hat (jThr_ot hj) hE3 hE4 hS (hsize.trans hml.symm) d0 d3 d4 d6 d9 hcl (by show 5 < fr; omega) (by show 0 + 82 ≤ lo; omega) (by show cells + 1 ≤ mc; exact hc) (by show slots + 6 ≤ ms; exact hs) hlocks (fun t _ hz hk => ⟨(), trivial, ⟨hxp, hP.kept (fun k q hq => hk q.1 (vx_lt hP hq)), hD0.self⟩, ⟨Nat.le_trans hS.1 hz, fun q h1 h2 => by rw [hk q (Nat.lt_of_lt_of_le h1 hS.1)]; exact hS.2.1 q h1 h2⟩⟩) hS.2.2 hc hs
  · intro E ce q9 H locs cells slots pc ls rest hxp hP hS hce hcv hcl hc hs
    exact vx_out (fun x hx => absurd hx (fun q => hnt x q)) hlocks hce hcv hcl (fun t ht _ => ⟨(), trivial, ⟨hxp, by rw [ht]; exact hP, hD0.self⟩, hS.F ht⟩) hS.2.2 hc hs
theorem jXv_of {ws9 : List Cond} (hfl : l.stackTraces = false) (hy : plainName y.cls = true) (hyc : y.cls = RX4) (hw : w = Cond.code y cc maxL none :: ws9) (hfit : (lg_sl av).length ≤ maxL) (hfr : 6 ≤ fr) (hlo : 82 ≤ lo)
    (body : ∀ (p : Program) (e : Env) (s : State) (m : MethodId) (args : Array Value) (below : List Frame) (meth : Method) (c : Code) (Q : State → Prop) (A : Nat → Prop), p.tables.exec = Jvm.exec → c.code = cc → c.maxLocals = maxL → (∀ x ∈ w, x.before args s = true) → s.vm.findClass y.cls = some m.cls → va_K D jcl (jT g) s → (∀ q : Nat, s.heap.size ≤ q → A q) → jE A s s.heap →
      (∀ (u : S) (H : Heap) (locs : List Loc) (cells slots pc : Nat) (ls : Array Slot), postv u → va_P D jcl (wr u) H → va_D A (wr u) → va_S A s.heap H locs → decode cc pc = .ok (.return_, 1) → cells ≤ mc → slots ≤ ms → W p l e (jRx fr lo mc ms) s m args below meth c H locs cells slots Q (F0 m pc ls [])) →
      (∀ (j i : Nat) (E : String) (ik ic is : Nat) (tx : String) (H : Heap) (locs : List Loc) (cells slots pc : Nat) (ls : Array Slot), jThr[j]? = some (E, ik, ic) → jStr[i]? = some (is, tx) → (∀ x ∈ Cond.classLink RX4 ik E :: Cond.initialized E :: (vx_atS RX4 ic E xN).filter goodWord, x ∈ w) → xp E → va_P D jcl ws H → va_S A s.heap H locs → ls.size = maxL → decode cc pc = .ok (.new ik, 3) → decode cc (pc + 3) = .ok (.dup, 1) → decode cc (pc + 4) = .ok (.ldc is, 2) → decode cc (pc + 6) = .ok (.invokespecial ic, 3) → decode cc (pc + 9) = .ok (.athrow, 1) → cells + 1 ≤ mc → slots + 6 ≤ ms → W p l e (jRx fr lo mc ms) s m args below meth c H locs cells slots Q (F0 m pc ls [])) →
      (∀ (E : String) (ce : Cell) (q9 : Addr) (H : Heap) (locs : List Loc) (cells slots pc : Nat) (ls : Array Slot) (rest : List Value), xp E → va_P D jcl ws H → va_S A s.heap H locs → H[q9]? = some ce → ce.vm = .none → s.vm.findClass E = some ce.cls → cells ≤ mc → slots ≤ ms → vx_W p l e (jRx fr lo mc ms) s m args below meth c H locs cells slots Q (F0 m pc ls rest) q9) →
      ∀ ls : Array Slot, lv_has ls maxL (lv_args 0 av) → va_P D jcl ws s.heap → va_D A ws → W p l e (jRx fr lo mc ms) s m args below meth c s.heap [] 0 0 Q (F0 m 0 ls [])) : jXv l D g y w fr lo mc ms av ws postv wr xp := by
  intro sz
  refine vx_ofW (cc := cc) (maxL := maxL) (ret := none) hy hw ?_
  intro p e s m args below meth c s₁ B hml hnt hv
  obtain ⟨rfl, ⟨hsz, hP, hK, hD0⟩, hE⟩ := hv
  have hlocks := B.notSynchronized
  have hr := B.returns
  have hts := atoms_spec (ws := w) B.pre
  have hown := findClass_of_methodNamed B.named
  subst hsz
  have hl := lv_entry av (n := maxL) hfit
  rw [lg_entry_eq]
  generalize (lg_sl av ++ List.replicate (maxL - (lg_sl av).length) Slot.unset).toArray = ls at hl ⊢
  refine body p e s m av.toArray below meth c _ (va_A ws s.heap.size) B.exec B.bytes hml hts hown hK (fun q h => Or.inr h) hE ?_ ?_ ?_ ls hl hP hD0.self
  · intro  u H locs cells slots pc ls h1 h2 h3 hS hdg hc hs
    refine vx_ret (W.widen hc hs ?_)
    exact W.vret B.exec B.bytes hr (fun t ht hW => ⟨⟨u, rfl, h1, by rw [ht]; exact h2, h3⟩, hS.F ht⟩) hS.2.2 hdg
  · intro j i E ik ic is tx H locs cells slots pc ls hj hi hwd hxp hP hS hsize d0 d3 d4 d6 d9 hc hs
    obtain ⟨hE1, hE2, hE3, hE4⟩ := hE
    obtain ⟨sa, hstr⟩ := hE2 _ (List.mem_of_getElem? hi)
    have hwd2 : ∀ x ∈ Cond.classLink RX4 ik E :: Cond.initialized E :: (vx_atS RX4 ic E xN).filter goodWord, x.before av.toArray s = true := fun x hx => hts x (hwd x hx)
    have hcl : ∀ x ∈ c.exceptionTable.toList, covers x (pc + 9) = false := fun x hx => absurd hx (fun q => hnt x q)
    have hE1' : ∀ w ∈ jX9, w.before av.toArray s = true := fun w hw => jX9_mv (Vm.Alike.refl s.vm) w hw (hE1 w hw)
    have hat : ∀ w ∈ vx_atS RX4 ic E xN, w.before av.toArray s = true := vx_hat (B := jX9) (fun w hw => hwd2 w (List.mem_cons_of_mem _ (List.mem_cons_of_mem _ hw))) (jThr_bad hj) hE1'
    refine vx_throwS (own := RX4) (cls := E) (text := tx) (names := xN) (ik := ik) (is := is) (ic := ic) (sa := sa) (A := va_A ws s.heap.size) B.exec B.bytes hfl (hyc ▸ hown) (jThr_fit hj) (by decide) (hwd2 _ List.mem_cons_self) (hwd2 _ (List.mem_cons_of_mem _ List.mem_cons_self)) hstr hat (jThr_ot hj) hE3 hE4 hS (hsize.trans hml.symm) d0 d3 d4 d6 d9 hcl (by show 5 < fr; omega) (by show 0 + 82 ≤ lo; omega) (by show cells + 1 ≤ mc; exact hc) (by show slots + 6 ≤ ms; exact hs) hlocks (fun t _ hz hk => ⟨(), trivial, ⟨hxp, hP.kept (fun k q hq => hk q.1 (vx_lt hP hq)), hD0.self⟩, ⟨Nat.le_trans hS.1 hz, fun q h1 h2 => by rw [hk q (Nat.lt_of_lt_of_le h1 hS.1)]; exact hS.2.1 q h1 h2⟩⟩) hS.2.2 hc hs
  · intro E ce q9 H locs cells slots pc ls rest hxp hP hS hce hcv hcl hc hs
    exact vx_out (fun x hx => absurd hx (fun q => hnt x q)) hlocks hce hcv hcl (fun t ht _ => ⟨(), trivial, ⟨hxp, by rw [ht]; exact hP, hD0.self⟩, hS.F ht⟩) hS.2.2 hc hs
end JX2
