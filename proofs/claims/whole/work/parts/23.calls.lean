/-! contracts over whole numbers: a method that makes nothing, its world a list of cells before and after -/
abbrev jcl : List vw_C := [(RX0, TX0, 7), (RX1, TX1, 12), (RX2, TX2, 6), (RX3, TX3, 2), (RX4, TX4, 19), (RX5, TX5, 31)]
abbrev jT (g : ClassId × ClassId × ClassId) : List (ClassId × FieldType) := [(g.1, .int), (g.2.1, .long), (g.2.2, .boolean)]
def jPc (D : va_G) (g : ClassId × ClassId × ClassId) (ws : va_W) (sz : Nat) : State → Prop := fun U => U.heap.size = sz ∧ va_P D jcl ws U.heap ∧ va_K D jcl (jT g) U ∧ va_D (fun _ => True) ws
def jB {S : Type} (D : va_G) (ws : va_W) (wr : S → va_W) (sz : Nat) : S → State → Prop := fun u t => va_P D jcl (wr u) t.heap ∧ va_D (va_A ws sz) (wr u)
abbrev jR (fr lo : Nat) : Room := { frames := fr, cells := 0, slots := 0, locals := lo }
def jMi (l : Launch) (D : va_G) (g : ClassId × ClassId × ClassId) (y : MethodName) (w : List Cond) (fr lo : Nat) (av : List Value) (ws : va_W) {S : Type} (post : Int → S → Prop) (wr : S → va_W) : Prop :=
  ∀ sz : Nat, Met l y w (jR fr lo) (va_Pc av (jPc D g ws sz)) (va_Qi (fun r u => ∃ z : Int, r = jI z ∧ post z u) (jB D ws wr sz) (va_A ws sz)) 0 0 (va_A ws sz)
def jMl (l : Launch) (D : va_G) (g : ClassId × ClassId × ClassId) (y : MethodName) (w : List Cond) (fr lo : Nat) (av : List Value) (ws : va_W) {S : Type} (post : Int64 → S → Prop) (wr : S → va_W) : Prop :=
  ∀ sz : Nat, Met l y w (jR fr lo) (va_Pc av (jPc D g ws sz)) (va_Ql post (jB D ws wr sz) (va_A ws sz)) 0 0 (va_A ws sz)
def jMv (l : Launch) (D : va_G) (g : ClassId × ClassId × ClassId) (y : MethodName) (w : List Cond) (fr lo : Nat) (av : List Value) (ws : va_W) {S : Type} (post : S → Prop) (wr : S → va_W) : Prop :=
  ∀ sz : Nat, Met l y w (jR fr lo) (va_Pc av (jPc D g ws sz)) (va_Qv post (jB D ws wr sz) (va_A ws sz)) 0 0 (va_A ws sz)
section JC
variable {p : Program} {l : Launch} {e : Env} {R : Room} {s : State} {m : MethodId} {args : Array Value} {below : List Frame} {meth : Method} {c : Code} {H : Heap} {locs : List Loc} {cells slots : Nat} {Q : State → Prop}
variable {cc bytes : ByteArray} {pc nL maxL index n fr lo : Nat} {ls : Array Slot} {st0 rest : List Value} {D : va_G} {g : ClassId × ClassId × ClassId} {ws wc wq : va_W} {A : Nat → Prop} {H0 : Heap} {S : Type} {wr : S → va_W} {y : MethodName} {w ws9 Ts : List Cond} {ret : Option FieldType} {own C : String} {b : Nat} {As av : List Value}
theorem jPc_blind (D : va_G) (g : ClassId × ClassId × ClassId) (ws : va_W) (sz : Nat) (av : List Value) : FrameBlind (va_Pc av (jPc D g ws sz)) := by
  intro a U f mk q
  obtain ⟨q0, q1, qP, qK, qD⟩ := q
  exact ⟨q0, q1, qP, va_K.moved (u := U) (U := U.calling f mk a) (Vm.Alike.refl U.vm) qK, qD⟩
theorem jc_fm {α β : Type} (f : α → Option β) : ∀ (is : List α) (w : List β), is.map f = w.map some → is.filterMap f = w
  | [], [], _ => rfl
  | [], _ :: _, h => by cases h
  | _ :: _, [], h => by cases h
  | i :: is, b :: w, h => by
    obtain ⟨h1, h2⟩ := List.cons.inj h
    rw [List.filterMap_cons_some h1, jc_fm f is w h2]
theorem jPc_pre (hK : va_K D jcl (jT g) s) (hP : va_P D jcl ws H) (hD : va_D A ws) (isC : List Nat) (hC : isC.map (fun i => ws[i]?) = wc.map some) (hn : va_nd isC = true) {U : State} (hU : U.heap = H) (hW : s.WarmedH U.vm) : jPc D g wc H.size U :=
  ⟨by rw [hU], by rw [hU]; exact hP.sub isC (jc_fm _ isC wc hC), va_K.moved hW.alike hK, (hD.sub isC hn hC).weaken (fun _ _ _ _ => trivial)⟩
theorem jc_join (hP : va_P D jcl ws H) (hD : va_D A ws) (isC isR : List Nat) (hC : isC.map (fun i => ws[i]?) = wc.map some) (hR : isR.map (fun i => ws[i]?) = wq.map some) (hn : va_nd isR = true) (hdis : ∀ i ∈ isR, i ∉ isC) (hF : ∀ q, va_A wc H.size q → A q) {u : S} {t : State} {H1 : Heap} (ht : t.heap = H1) (hB : jB D wc wr H.size u t) (hk : ∀ q : Nat, q < H.size → ¬ va_A wc H.size q → H1[q]? = H[q]?) : va_P D jcl (wq ++ wr u) H1 ∧ va_D A (wq ++ wr u) := by
  obtain ⟨hP1, hD1⟩ := hB
  rw [ht] at hP1
  exact va_join hP hD isC isR hC hR hn hdis hk hF hP1 hD1
variable {post : Int → S → Prop} {postl : Int64 → S → Prop} {postv : S → Prop}
theorem jc_Vi (F : CallFix p m c cc nL s args Ts own) (hM : jMi l D g y w fr lo (.ref b :: As) wc post wr) (hcw : CallW R s args own C index y bytes maxL ret w (jR fr lo) 0 0 n) (hK : va_K D jcl (jT g) s) (hP : va_P D jcl ws H) (hD : va_D A ws) (hS : va_S A H0 H locs) (hA : ∀ q, H0.size ≤ q → A q) (isC isR : List Nat) (hC : isC.map (fun i => ws[i]?) = wc.map some) (hR : isR.map (fun i => ws[i]?) = wq.map some) (hnC : va_nd isC = true) (hn : va_nd isR = true) (hdis : ∀ i ∈ isR, i ∉ isC)
    (hrecv : ∃ cellB : Cell, H[b]? = some cellB ∧ cellB.vm.isStatics = false ∧ s.vm.findClass C = some cellB.cls) (hst : st0 = As.reverse ++ .ref b :: rest) (hln : As.length = n) (hsize : ls.size = nL) (hroom : (rest.map fun v => v.category).sum ≤ 8) (hdg : decode cc pc = .ok (.invokevirtual index, 3)) (hf : cells + 0 ≤ R.cells ∧ slots + 0 ≤ R.slots)
    (kk : ∀ (z : Int) (u : S) (H1 : Heap) (locs1 : List Loc), post z u → va_P D jcl (wq ++ wr u) H1 → va_D A (wq ++ wr u) → va_S A H0 H1 locs1 → W p l e R s m args below meth c H1 locs1 cells slots Q (F0 m (pc + 3) ls (.int (jI z) :: rest))) : W p l e R s m args below meth c H locs cells slots Q (F0 m pc ls st0) := by
  have hF := va_free hD hS hA isC hC
  refine va_calli (va_runV F (hM H.size) hcw ⟨jPc_blind D g wc H.size _, hrecv, fun U hU hW => ⟨rfl, jPc_pre hK hP hD isC hC hnC hU hW⟩⟩ rfl hln hsize hst (lv_room hroom) hdg hf) hS (fun q _ h => hF q h) hF (fun r u t H1 locs1 ht _ hw hB _ hk hS => ?_)
  obtain ⟨z, rfl, hz⟩ := hw
  obtain ⟨hP1, hD1⟩ := jc_join hP hD isC isR hC hR hn hdis hF ht hB hk
  exact kk z u H1 locs1 hz hP1 hD1 hS
theorem jc_Vl (F : CallFix p m c cc nL s args Ts own) (hM : jMl l D g y w fr lo (.ref b :: As) wc postl wr) (hcw : CallW R s args own C index y bytes maxL ret w (jR fr lo) 0 0 n) (hK : va_K D jcl (jT g) s) (hP : va_P D jcl ws H) (hD : va_D A ws) (hS : va_S A H0 H locs) (hA : ∀ q, H0.size ≤ q → A q) (isC isR : List Nat) (hC : isC.map (fun i => ws[i]?) = wc.map some) (hR : isR.map (fun i => ws[i]?) = wq.map some) (hnC : va_nd isC = true) (hn : va_nd isR = true) (hdis : ∀ i ∈ isR, i ∉ isC)
    (hrecv : ∃ cellB : Cell, H[b]? = some cellB ∧ cellB.vm.isStatics = false ∧ s.vm.findClass C = some cellB.cls) (hst : st0 = As.reverse ++ .ref b :: rest) (hln : As.length = n) (hsize : ls.size = nL) (hroom : (rest.map fun v => v.category).sum ≤ 8) (hdg : decode cc pc = .ok (.invokevirtual index, 3)) (hf : cells + 0 ≤ R.cells ∧ slots + 0 ≤ R.slots)
    (kk : ∀ (z : Int64) (u : S) (H1 : Heap) (locs1 : List Loc), postl z u → va_P D jcl (wq ++ wr u) H1 → va_D A (wq ++ wr u) → va_S A H0 H1 locs1 → W p l e R s m args below meth c H1 locs1 cells slots Q (F0 m (pc + 3) ls (.long z :: rest))) : W p l e R s m args below meth c H locs cells slots Q (F0 m pc ls st0) := by
  have hF := va_free hD hS hA isC hC
  refine va_calll (va_runV F (hM H.size) hcw ⟨jPc_blind D g wc H.size _, hrecv, fun U hU hW => ⟨rfl, jPc_pre hK hP hD isC hC hnC hU hW⟩⟩ rfl hln hsize hst (lv_room hroom) hdg hf) hS (fun q _ h => hF q h) hF (fun z u t H1 locs1 ht _ hw hB _ hk hS => ?_)
  obtain ⟨hP1, hD1⟩ := jc_join hP hD isC isR hC hR hn hdis hF ht hB hk
  exact kk z u H1 locs1 hw hP1 hD1 hS
theorem jc_Vv (F : CallFix p m c cc nL s args Ts own) (hM : jMv l D g y w fr lo (.ref b :: As) wc postv wr) (hcw : CallW R s args own C index y bytes maxL ret w (jR fr lo) 0 0 n) (hK : va_K D jcl (jT g) s) (hP : va_P D jcl ws H) (hD : va_D A ws) (hS : va_S A H0 H locs) (hA : ∀ q, H0.size ≤ q → A q) (isC isR : List Nat) (hC : isC.map (fun i => ws[i]?) = wc.map some) (hR : isR.map (fun i => ws[i]?) = wq.map some) (hnC : va_nd isC = true) (hn : va_nd isR = true) (hdis : ∀ i ∈ isR, i ∉ isC)
    (hrecv : ∃ cellB : Cell, H[b]? = some cellB ∧ cellB.vm.isStatics = false ∧ s.vm.findClass C = some cellB.cls) (hst : st0 = As.reverse ++ .ref b :: rest) (hln : As.length = n) (hsize : ls.size = nL) (hroom : (rest.map fun v => v.category).sum ≤ 8) (hdg : decode cc pc = .ok (.invokevirtual index, 3)) (hf : cells + 0 ≤ R.cells ∧ slots + 0 ≤ R.slots)
    (kk : ∀ (u : S) (H1 : Heap) (locs1 : List Loc), postv u → va_P D jcl (wq ++ wr u) H1 → va_D A (wq ++ wr u) → va_S A H0 H1 locs1 → W p l e R s m args below meth c H1 locs1 cells slots Q (F0 m (pc + 3) ls rest)) : W p l e R s m args below meth c H locs cells slots Q (F0 m pc ls st0) := by
  have hF := va_free hD hS hA isC hC
  refine va_callv (va_runV F (hM H.size) hcw ⟨jPc_blind D g wc H.size _, hrecv, fun U hU hW => ⟨rfl, jPc_pre hK hP hD isC hC hnC hU hW⟩⟩ rfl hln hsize hst (lv_room hroom) hdg hf) hS (fun q _ h => hF q h) hF (fun u t H1 locs1 ht _ hw hB _ hk hS => ?_)
  obtain ⟨hP1, hD1⟩ := jc_join hP hD isC isR hC hR hn hdis hF ht hB hk
  exact kk u H1 locs1 hw hP1 hD1 hS
theorem jc_Si (F : CallFix p m c cc nL s args Ts own) (hM : jMi l D g y w fr lo As wc post wr) (hcw : CallB R s args own index y bytes maxL ret w (jR fr lo) 0 0 n ∧ (Cond.static y).before args s = true) (hK : va_K D jcl (jT g) s) (hP : va_P D jcl ws H) (hD : va_D A ws) (hS : va_S A H0 H locs) (hA : ∀ q, H0.size ≤ q → A q) (isC isR : List Nat) (hC : isC.map (fun i => ws[i]?) = wc.map some) (hR : isR.map (fun i => ws[i]?) = wq.map some) (hnC : va_nd isC = true) (hn : va_nd isR = true) (hdis : ∀ i ∈ isR, i ∉ isC)
    (hst : st0 = As.reverse ++ rest) (hln : As.length = n) (hsize : ls.size = nL) (hroom : (rest.map fun v => v.category).sum ≤ 8) (hdg : decode cc pc = .ok (.invokestatic index, 3)) (hf : cells + 0 ≤ R.cells ∧ slots + 0 ≤ R.slots)
    (kk : ∀ (z : Int) (u : S) (H1 : Heap) (locs1 : List Loc), post z u → va_P D jcl (wq ++ wr u) H1 → va_D A (wq ++ wr u) → va_S A H0 H1 locs1 → W p l e R s m args below meth c H1 locs1 cells slots Q (F0 m (pc + 3) ls (.int (jI z) :: rest))) : W p l e R s m args below meth c H locs cells slots Q (F0 m pc ls st0) := by
  have hF := va_free hD hS hA isC hC
  refine va_calli (va_runS F (hM H.size) hcw ⟨jPc_blind D g wc H.size _, fun U hU hW => ⟨rfl, jPc_pre hK hP hD isC hC hnC hU hW⟩⟩ rfl hln hsize hst (lv_room hroom) hdg hf) hS (fun q _ h => hF q h) hF (fun r u t H1 locs1 ht _ hw hB _ hk hS => ?_)
  obtain ⟨z, rfl, hz⟩ := hw
  obtain ⟨hP1, hD1⟩ := jc_join hP hD isC isR hC hR hn hdis hF ht hB hk
  exact kk z u H1 locs1 hz hP1 hD1 hS
theorem jc_Sl (F : CallFix p m c cc nL s args Ts own) (hM : jMl l D g y w fr lo As wc postl wr) (hcw : CallB R s args own index y bytes maxL ret w (jR fr lo) 0 0 n ∧ (Cond.static y).before args s = true) (hK : va_K D jcl (jT g) s) (hP : va_P D jcl ws H) (hD : va_D A ws) (hS : va_S A H0 H locs) (hA : ∀ q, H0.size ≤ q → A q) (isC isR : List Nat) (hC : isC.map (fun i => ws[i]?) = wc.map some) (hR : isR.map (fun i => ws[i]?) = wq.map some) (hnC : va_nd isC = true) (hn : va_nd isR = true) (hdis : ∀ i ∈ isR, i ∉ isC)
    (hst : st0 = As.reverse ++ rest) (hln : As.length = n) (hsize : ls.size = nL) (hroom : (rest.map fun v => v.category).sum ≤ 8) (hdg : decode cc pc = .ok (.invokestatic index, 3)) (hf : cells + 0 ≤ R.cells ∧ slots + 0 ≤ R.slots)
    (kk : ∀ (z : Int64) (u : S) (H1 : Heap) (locs1 : List Loc), postl z u → va_P D jcl (wq ++ wr u) H1 → va_D A (wq ++ wr u) → va_S A H0 H1 locs1 → W p l e R s m args below meth c H1 locs1 cells slots Q (F0 m (pc + 3) ls (.long z :: rest))) : W p l e R s m args below meth c H locs cells slots Q (F0 m pc ls st0) := by
  have hF := va_free hD hS hA isC hC
  refine va_calll (va_runS F (hM H.size) hcw ⟨jPc_blind D g wc H.size _, fun U hU hW => ⟨rfl, jPc_pre hK hP hD isC hC hnC hU hW⟩⟩ rfl hln hsize hst (lv_room hroom) hdg hf) hS (fun q _ h => hF q h) hF (fun z u t H1 locs1 ht _ hw hB _ hk hS => ?_)
  obtain ⟨hP1, hD1⟩ := jc_join hP hD isC isR hC hR hn hdis hF ht hB hk
  exact kk z u H1 locs1 hw hP1 hD1 hS
theorem jc_Sv (F : CallFix p m c cc nL s args Ts own) (hM : jMv l D g y w fr lo As wc postv wr) (hcw : CallB R s args own index y bytes maxL ret w (jR fr lo) 0 0 n ∧ (Cond.static y).before args s = true) (hK : va_K D jcl (jT g) s) (hP : va_P D jcl ws H) (hD : va_D A ws) (hS : va_S A H0 H locs) (hA : ∀ q, H0.size ≤ q → A q) (isC isR : List Nat) (hC : isC.map (fun i => ws[i]?) = wc.map some) (hR : isR.map (fun i => ws[i]?) = wq.map some) (hnC : va_nd isC = true) (hn : va_nd isR = true) (hdis : ∀ i ∈ isR, i ∉ isC)
    (hst : st0 = As.reverse ++ rest) (hln : As.length = n) (hsize : ls.size = nL) (hroom : (rest.map fun v => v.category).sum ≤ 8) (hdg : decode cc pc = .ok (.invokestatic index, 3)) (hf : cells + 0 ≤ R.cells ∧ slots + 0 ≤ R.slots)
    (kk : ∀ (u : S) (H1 : Heap) (locs1 : List Loc), postv u → va_P D jcl (wq ++ wr u) H1 → va_D A (wq ++ wr u) → va_S A H0 H1 locs1 → W p l e R s m args below meth c H1 locs1 cells slots Q (F0 m (pc + 3) ls rest)) : W p l e R s m args below meth c H locs cells slots Q (F0 m pc ls st0) := by
  have hF := va_free hD hS hA isC hC
  refine va_callv (va_runS F (hM H.size) hcw ⟨jPc_blind D g wc H.size _, fun U hU hW => ⟨rfl, jPc_pre hK hP hD isC hC hnC hU hW⟩⟩ rfl hln hsize hst (lv_room hroom) hdg hf) hS (fun q _ h => hF q h) hF (fun u t H1 locs1 ht _ hw hB _ hk hS => ?_)
  obtain ⟨hP1, hD1⟩ := jc_join hP hD isC isR hC hR hn hdis hF ht hB hk
  exact kk u H1 locs1 hw hP1 hD1 hS
theorem jMi_of {ws9 : List Cond} (hy : plainName y.cls = true) (hw : w = Cond.code y cc maxL (some .int) :: ws9) (hfit : (lg_sl av).length ≤ maxL)
    (body : ∀ (p : Program) (e : Env) (s : State) (m : MethodId) (args : Array Value) (below : List Frame) (meth : Method) (c : Code) (Q : State → Prop) (A : Nat → Prop), p.tables.exec = Jvm.exec → c.code = cc → c.maxLocals = maxL → (∀ x ∈ w, x.before args s = true) → s.vm.findClass y.cls = some m.cls → va_K D jcl (jT g) s → (∀ q : Nat, s.heap.size ≤ q → A q) →
      (∀ (z : Int) (u : S) (H : Heap) (locs : List Loc) (pc : Nat) (ls : Array Slot), post z u → va_P D jcl (wr u) H → va_D A (wr u) → va_S A s.heap H locs → decode cc pc = .ok (.ireturn, 1) → W p l e (jR fr lo) s m args below meth c H locs 0 0 Q (F0 m pc ls [.int (jI z)])) →
      ∀ ls : Array Slot, lv_has ls maxL (lv_args 0 av) → va_P D jcl ws s.heap → va_D A ws → W p l e (jR fr lo) s m args below meth c s.heap [] 0 0 Q (F0 m 0 ls [])) : jMi l D g y w fr lo av ws post wr := by
  intro sz
  refine Met.ofW (cc := cc) (maxL := maxL) (ret := (some .int)) hy hw ?_
  intro p e s m args below meth c s₁ B hml hv
  obtain ⟨rfl, hsz, hP, hK, hD0⟩ := hv
  have hlocks := B.notSynchronized
  have hr := B.returns
  subst hsz
  have hl := lv_entry av (n := maxL) hfit
  rw [lg_entry_eq]
  generalize (lg_sl av ++ List.replicate (maxL - (lg_sl av).length) Slot.unset).toArray = ls at hl ⊢
  refine body p e s m av.toArray below meth c _ (va_A ws s.heap.size) B.exec B.bytes hml (atoms_spec (ws := w) B.pre) (findClass_of_methodNamed B.named) hK (fun q h => Or.inr h) ?_ ls hl hP hD0.self
  intro z u H locs pc ls h1 h2 h3 hS hdg
  exact W.iret (v := jI z) B.exec B.bytes hr (fun t ht hW => ⟨⟨jI z, u, rfl, ⟨z, rfl, h1⟩, by rw [ht]; exact h2, h3⟩, hS.F ht⟩) hS.2.2 hdg
theorem jMz_of {ws9 : List Cond} (hy : plainName y.cls = true) (hw : w = Cond.code y cc maxL (some .boolean) :: ws9) (hfit : (lg_sl av).length ≤ maxL)
    (body : ∀ (p : Program) (e : Env) (s : State) (m : MethodId) (args : Array Value) (below : List Frame) (meth : Method) (c : Code) (Q : State → Prop) (A : Nat → Prop), p.tables.exec = Jvm.exec → c.code = cc → c.maxLocals = maxL → (∀ x ∈ w, x.before args s = true) → s.vm.findClass y.cls = some m.cls → va_K D jcl (jT g) s → (∀ q : Nat, s.heap.size ≤ q → A q) →
      (∀ (z : Int) (u : S) (H : Heap) (locs : List Loc) (pc : Nat) (ls : Array Slot), (z = 0 ∨ z = 1) → post z u → va_P D jcl (wr u) H → va_D A (wr u) → va_S A s.heap H locs → decode cc pc = .ok (.ireturn, 1) → W p l e (jR fr lo) s m args below meth c H locs 0 0 Q (F0 m pc ls [.int (jI z)])) →
      ∀ ls : Array Slot, lv_has ls maxL (lv_args 0 av) → va_P D jcl ws s.heap → va_D A ws → W p l e (jR fr lo) s m args below meth c s.heap [] 0 0 Q (F0 m 0 ls [])) : jMi l D g y w fr lo av ws post wr := by
  intro sz
  refine Met.ofW (cc := cc) (maxL := maxL) (ret := (some .boolean)) hy hw ?_
  intro p e s m args below meth c s₁ B hml hv
  obtain ⟨rfl, hsz, hP, hK, hD0⟩ := hv
  have hlocks := B.notSynchronized
  have hr := B.returns
  subst hsz
  have hl := lv_entry av (n := maxL) hfit
  rw [lg_entry_eq]
  generalize (lg_sl av ++ List.replicate (maxL - (lg_sl av).length) Slot.unset).toArray = ls at hl ⊢
  refine body p e s m av.toArray below meth c _ (va_A ws s.heap.size) B.exec B.bytes hml (atoms_spec (ws := w) B.pre) (findClass_of_methodNamed B.named) hK (fun q h => Or.inr h) ?_ ls hl hP hD0.self
  intro z u H locs pc ls hz h1 h2 h3 hS hdg
  exact W.zret (v := jI z) (ty := .boolean) B.exec B.bytes hr (by rcases hz with rfl | rfl <;> decide) (fun t ht hW => ⟨⟨jI z, u, rfl, ⟨z, rfl, h1⟩, by rw [ht]; exact h2, h3⟩, hS.F ht⟩) hS.2.2 hdg
theorem jMl_of {ws9 : List Cond} (hy : plainName y.cls = true) (hw : w = Cond.code y cc maxL (some .long) :: ws9) (hfit : (lg_sl av).length ≤ maxL)
    (body : ∀ (p : Program) (e : Env) (s : State) (m : MethodId) (args : Array Value) (below : List Frame) (meth : Method) (c : Code) (Q : State → Prop) (A : Nat → Prop), p.tables.exec = Jvm.exec → c.code = cc → c.maxLocals = maxL → (∀ x ∈ w, x.before args s = true) → s.vm.findClass y.cls = some m.cls → va_K D jcl (jT g) s → (∀ q : Nat, s.heap.size ≤ q → A q) →
      (∀ (z : Int64) (u : S) (H : Heap) (locs : List Loc) (pc : Nat) (ls : Array Slot), postl z u → va_P D jcl (wr u) H → va_D A (wr u) → va_S A s.heap H locs → decode cc pc = .ok (.lreturn, 1) → W p l e (jR fr lo) s m args below meth c H locs 0 0 Q (F0 m pc ls [.long z])) →
      ∀ ls : Array Slot, lv_has ls maxL (lv_args 0 av) → va_P D jcl ws s.heap → va_D A ws → W p l e (jR fr lo) s m args below meth c s.heap [] 0 0 Q (F0 m 0 ls [])) : jMl l D g y w fr lo av ws postl wr := by
  intro sz
  refine Met.ofW (cc := cc) (maxL := maxL) (ret := (some .long)) hy hw ?_
  intro p e s m args below meth c s₁ B hml hv
  obtain ⟨rfl, hsz, hP, hK, hD0⟩ := hv
  have hlocks := B.notSynchronized
  have hr := B.returns
  subst hsz
  have hl := lv_entry av (n := maxL) hfit
  rw [lg_entry_eq]
  generalize (lg_sl av ++ List.replicate (maxL - (lg_sl av).length) Slot.unset).toArray = ls at hl ⊢
  refine body p e s m av.toArray below meth c _ (va_A ws s.heap.size) B.exec B.bytes hml (atoms_spec (ws := w) B.pre) (findClass_of_methodNamed B.named) hK (fun q h => Or.inr h) ?_ ls hl hP hD0.self
  intro z u H locs pc ls h1 h2 h3 hS hdg
  exact W.lret (v := z) B.exec B.bytes hr (fun t ht hW => ⟨⟨z, u, rfl, h1, by rw [ht]; exact h2, h3⟩, hS.F ht⟩) hS.2.2 hdg
theorem jMv_of {ws9 : List Cond} (hy : plainName y.cls = true) (hw : w = Cond.code y cc maxL none :: ws9) (hfit : (lg_sl av).length ≤ maxL)
    (body : ∀ (p : Program) (e : Env) (s : State) (m : MethodId) (args : Array Value) (below : List Frame) (meth : Method) (c : Code) (Q : State → Prop) (A : Nat → Prop), p.tables.exec = Jvm.exec → c.code = cc → c.maxLocals = maxL → (∀ x ∈ w, x.before args s = true) → s.vm.findClass y.cls = some m.cls → va_K D jcl (jT g) s → (∀ q : Nat, s.heap.size ≤ q → A q) →
      (∀ (u : S) (H : Heap) (locs : List Loc) (pc : Nat) (ls : Array Slot), postv u → va_P D jcl (wr u) H → va_D A (wr u) → va_S A s.heap H locs → decode cc pc = .ok (.return_, 1) → W p l e (jR fr lo) s m args below meth c H locs 0 0 Q (F0 m pc ls [])) →
      ∀ ls : Array Slot, lv_has ls maxL (lv_args 0 av) → va_P D jcl ws s.heap → va_D A ws → W p l e (jR fr lo) s m args below meth c s.heap [] 0 0 Q (F0 m 0 ls [])) : jMv l D g y w fr lo av ws postv wr := by
  intro sz
  refine Met.ofW (cc := cc) (maxL := maxL) (ret := none) hy hw ?_
  intro p e s m args below meth c s₁ B hml hv
  obtain ⟨rfl, hsz, hP, hK, hD0⟩ := hv
  have hlocks := B.notSynchronized
  have hr := B.returns
  subst hsz
  have hl := lv_entry av (n := maxL) hfit
  rw [lg_entry_eq]
  generalize (lg_sl av ++ List.replicate (maxL - (lg_sl av).length) Slot.unset).toArray = ls at hl ⊢
  refine body p e s m av.toArray below meth c _ (va_A ws s.heap.size) B.exec B.bytes hml (atoms_spec (ws := w) B.pre) (findClass_of_methodNamed B.named) hK (fun q h => Or.inr h) ?_ ls hl hP hD0.self
  intro u H locs pc ls h1 h2 h3 hS hdg
  exact W.vret B.exec B.bytes hr (fun t ht hW => ⟨⟨u, rfl, h1, by rw [ht]; exact h2, h3⟩, hS.F ht⟩) hS.2.2 hdg
theorem jv_max (hx : p.tables.exec = Jvm.exec) (hb : c.code = cc) (hml : c.maxLocals = ls.size) (hown : s.vm.findClass own = some m.cls) (hlink : (Cond.methodLink own index Lib.Math.max.name).before args s = true) (hstat : (Cond.static Lib.Math.max.name).before args s = true) (hini : (Cond.initialized "java/lang/Math").before args s = true) (hcode : (Cond.code Lib.Math.max.name Lib.Math.max.code 2 (some .int)).before args s = true)
    (hframes : 1 ≤ R.frames) (hlocals : (rest.map fun v => v.category).sum + 13 ≤ R.locals) (hc : cells ≤ R.cells) (hs : slots ≤ R.slots) {x y : Int} (hrx : rI x) (hry : rI y) (hdg : decode cc pc = .ok (.invokestatic index, 3))
    (kk : ∀ z : Int, z = max x y → W p l e R s m args below meth c H locs cells slots Q (F0 m (pc + 3) ls (.int (jI z) :: rest))) : W p l e R s m args below meth c H locs cells slots Q (F0 m pc ls (.int (jI y) :: .int (jI x) :: rest)) := by
  refine va_mmax hx hb hml hown hlink hstat hini hcode hframes hlocals hc hs hdg ?_
  have e : (if jI x < jI y then jI y else jI x) = jI (max x y) := by
    by_cases h : x < y
    · rw [if_pos ((jI_lt hrx hry).mpr h)]; congr 1; omega
    · rw [if_neg (fun q => h ((jI_lt hrx hry).mp q))]; congr 1; omega
  rw [e]
  exact kk _ rfl
theorem jv_min (hx : p.tables.exec = Jvm.exec) (hb : c.code = cc) (hml : c.maxLocals = ls.size) (hown : s.vm.findClass own = some m.cls) (hlink : (Cond.methodLink own index Lib.Math.min.name).before args s = true) (hstat : (Cond.static Lib.Math.min.name).before args s = true) (hini : (Cond.initialized "java/lang/Math").before args s = true) (hcode : (Cond.code Lib.Math.min.name Lib.Math.min.code 2 (some .int)).before args s = true)
    (hframes : 1 ≤ R.frames) (hlocals : (rest.map fun v => v.category).sum + 13 ≤ R.locals) (hc : cells ≤ R.cells) (hs : slots ≤ R.slots) {x y : Int} (hrx : rI x) (hry : rI y) (hdg : decode cc pc = .ok (.invokestatic index, 3))
    (kk : ∀ z : Int, z = min x y → W p l e R s m args below meth c H locs cells slots Q (F0 m (pc + 3) ls (.int (jI z) :: rest))) : W p l e R s m args below meth c H locs cells slots Q (F0 m pc ls (.int (jI y) :: .int (jI x) :: rest)) := by
  refine va_mmin hx hb hml hown hlink hstat hini hcode hframes hlocals hc hs hdg ?_
  have e : (if jI y < jI x then jI y else jI x) = jI (min x y) := by
    by_cases h : y < x
    · rw [if_pos ((jI_lt hry hrx).mpr h)]; congr 1; omega
    · rw [if_neg (fun q => h ((jI_lt hry hrx).mp q))]; congr 1; omega
  rw [e]
  exact kk _ rfl
end JC
