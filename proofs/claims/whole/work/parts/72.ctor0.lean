/-! constructors: contracts that make cells, their calls, and new arrays -/
def jN (l : Launch) (D : va_G) (g : ClassId × ClassId × ClassId) (y : MethodName) (w : List Cond) (fr lo mc ms : Nat) (av : List Value) (ws : va_W) {S : Type} (post : S → Prop) (wr : S → va_W) : Prop :=
  ∀ sz : Nat, Met l y w (jRx fr lo mc ms) (va_Pc av (jPc D g ws sz)) (va_Qv post (jB D ws wr sz) (va_A ws sz)) mc ms (va_A ws sz)
/-- the same, with a word of a nest mate's link ahead -/
def jNz (l : Launch) (D : va_G) (g : ClassId × ClassId × ClassId) (y : MethodName) (w : List Cond) (Z : List Cond) (fr lo mc ms : Nat) (av : List Value) (ws : va_W) {S : Type} (post : S → Prop) (wr : S → va_W) : Prop :=
  ∀ sz : Nat, Met l y w (jRx fr lo mc ms) (va_Pc av (fun U => jPc D g ws sz U ∧ ∀ z ∈ Z, va_Nw z U)) (va_Qv post (jB D ws wr sz) (va_A ws sz)) mc ms (va_A ws sz)
abbrev jNest : List Cond := [.methodLinkNest RX4 75 yX3_init RX4, .methodLinkNest RX4 82 yX2_init RX4]
theorem jNest_warm {s U : State} (hW : s.WarmedH U.vm) (h : ∀ z ∈ jNest, va_Nw z s) : ∀ z ∈ jNest, va_Nw z U := by
  intro z hz
  simp only [List.mem_cons, List.not_mem_nil, or_false] at hz
  rcases hz with rfl | rfl
  · exact va_Nw.warmM hW (h _ (by simp))
  · exact va_Nw.warmM hW (h _ (by simp))
section JN
variable {p : Program} {l : Launch} {e : Env} {R : Room} {s : State} {m : MethodId} {args : Array Value} {below : List Frame} {meth : Method} {c : Code} {H : Heap} {locs : List Loc} {cells slots : Nat} {Q : State → Prop}
variable {cc bytes : ByteArray} {pc nL maxL index n fr lo mc ms : Nat} {ls : Array Slot} {st0 rest : List Value} {D : va_G} {g : ClassId × ClassId × ClassId} {ws wc wq : va_W} {A : Nat → Prop} {H0 : Heap} {S : Type} {wr : S → va_W} {y : MethodName} {w ws9 Ts : List Cond} {own C : String} {b : Nat} {As av : List Value} {postv : S → Prop}
theorem jN_of (hy : plainName y.cls = true) (hyn : y.name = "<init>") (hw : w = Cond.code y cc maxL none :: ws9) (hfit : (lg_sl av).length ≤ maxL)
    (body : ∀ (p : Program) (e : Env) (s : State) (m : MethodId) (args : Array Value) (below : List Frame) (meth : Method) (c : Code) (Q : State → Prop) (A : Nat → Prop), p.tables.exec = Jvm.exec → c.code = cc → c.maxLocals = maxL → (∀ x ∈ w, x.before args s = true) → s.vm.findClass y.cls = some m.cls → va_K D jcl (jT g) s → (∀ q : Nat, s.heap.size ≤ q → A q) → meth.name = "<init>" →
      (∀ (u : S) (H : Heap) (locs : List Loc) (cells slots pc : Nat) (ls : Array Slot), postv u → va_P D jcl (wr u) H → va_D A (wr u) → va_S A s.heap H locs → decode cc pc = .ok (.return_, 1) → cells ≤ mc → slots ≤ ms → W p l e (jRx fr lo mc ms) s m args below meth c H locs cells slots Q (F0 m pc ls [])) →
      ∀ ls : Array Slot, lv_has ls maxL (lv_args 0 av) → va_P D jcl ws s.heap → va_D A ws → W p l e (jRx fr lo mc ms) s m args below meth c s.heap [] 0 0 Q (F0 m 0 ls [])) : jN l D g y w fr lo mc ms av ws postv wr := by
  intro sz
  refine Met.ofW (cc := cc) (maxL := maxL) (ret := none) hy hw ?_
  intro p e s m args below meth c s₁ B hml hv
  obtain ⟨rfl, hsz, hP, hK, hD0⟩ := hv
  have hlocks := B.notSynchronized
  have hr := B.returns
  have hin : meth.name = "<init>" := hyn ▸ (name_of_methodNamed B.named B.method).1
  subst hsz
  have hl := lv_entry av (n := maxL) hfit
  rw [lg_entry_eq]
  generalize (lg_sl av ++ List.replicate (maxL - (lg_sl av).length) Slot.unset).toArray = ls at hl ⊢
  refine body p e s m av.toArray below meth c _ (va_A ws s.heap.size) B.exec B.bytes hml (atoms_spec (ws := w) B.pre) (findClass_of_methodNamed B.named) hK (fun q h => Or.inr h) hin ?_ ls hl hP hD0.self
  intro u H locs cells slots pc ls h1 h2 h3 hS hdg hc hs
  exact W.widen hc hs (W.vret B.exec B.bytes hr (fun t ht hW => ⟨⟨u, rfl, h1, by rw [ht]; exact h2, h3⟩, hS.F ht⟩) hS.2.2 hdg)
theorem jNz_of {Z : List Cond} (hy : plainName y.cls = true) (hyn : y.name = "<init>") (hw : w = Cond.code y cc maxL none :: ws9) (hfit : (lg_sl av).length ≤ maxL)
    (body : ∀ (p : Program) (e : Env) (s : State) (m : MethodId) (args : Array Value) (below : List Frame) (meth : Method) (c : Code) (Q : State → Prop) (A : Nat → Prop), p.tables.exec = Jvm.exec → c.code = cc → c.maxLocals = maxL → (∀ x ∈ w, x.before args s = true) → s.vm.findClass y.cls = some m.cls → va_K D jcl (jT g) s → (∀ q : Nat, s.heap.size ≤ q → A q) → meth.name = "<init>" → (∀ z ∈ Z, va_Nw z s) →
      (∀ (u : S) (H : Heap) (locs : List Loc) (cells slots pc : Nat) (ls : Array Slot), postv u → va_P D jcl (wr u) H → va_D A (wr u) → va_S A s.heap H locs → decode cc pc = .ok (.return_, 1) → cells ≤ mc → slots ≤ ms → W p l e (jRx fr lo mc ms) s m args below meth c H locs cells slots Q (F0 m pc ls [])) →
      ∀ ls : Array Slot, lv_has ls maxL (lv_args 0 av) → va_P D jcl ws s.heap → va_D A ws → W p l e (jRx fr lo mc ms) s m args below meth c s.heap [] 0 0 Q (F0 m 0 ls [])) : jNz l D g y w Z fr lo mc ms av ws postv wr := by
  intro sz
  refine Met.ofW (cc := cc) (maxL := maxL) (ret := none) hy hw ?_
  intro p e s m args below meth c s₁ B hml hv
  obtain ⟨rfl, ⟨hsz, hP, hK, hD0⟩, hZ⟩ := hv
  have hlocks := B.notSynchronized
  have hr := B.returns
  have hin : meth.name = "<init>" := hyn ▸ (name_of_methodNamed B.named B.method).1
  subst hsz
  have hl := lv_entry av (n := maxL) hfit
  rw [lg_entry_eq]
  generalize (lg_sl av ++ List.replicate (maxL - (lg_sl av).length) Slot.unset).toArray = ls at hl ⊢
  refine body p e s m av.toArray below meth c _ (va_A ws s.heap.size) B.exec B.bytes hml (atoms_spec (ws := w) B.pre) (findClass_of_methodNamed B.named) hK (fun q h => Or.inr h) hin hZ ?_ ls hl hP hD0.self
  intro u H locs cells slots pc ls h1 h2 h3 hS hdg hc hs
  exact W.widen hc hs (W.vret B.exec B.bytes hr (fun t ht hW => ⟨⟨u, rfl, h1, by rw [ht]; exact h2, h3⟩, hS.F ht⟩) hS.2.2 hdg)
theorem jn_I (F : CallFix p m c cc nL s args Ts own) (hM : jN l D g y w fr lo mc ms (.ref b :: As) wc postv wr) (hcw : CallB R s args own index y bytes maxL none w (jRx fr lo mc ms) mc ms n ∧ y.name = "<init>" ∧ (Cond.instanceMethod y).before args s = true) (hK : va_K D jcl (jT g) s) (hP : va_P D jcl ws H) (hD : va_D A ws) (hS : va_S A H0 H locs) (hA : ∀ q, H0.size ≤ q → A q) (isC isR : List Nat) (hC : isC.map (fun i => ws[i]?) = wc.map some) (hR : isR.map (fun i => ws[i]?) = wq.map some) (hnC : va_nd isC = true) (hn : va_nd isR = true) (hdis : ∀ i ∈ isR, i ∉ isC)
    (hst : st0 = As.reverse ++ .ref b :: rest) (hln : As.length = n) (hsize : ls.size = nL) (hroom : (rest.map fun v => v.category).sum ≤ 8) (hdg : decode cc pc = .ok (.invokespecial index, 3)) (hf : cells + mc ≤ R.cells ∧ slots + ms ≤ R.slots)
    (kk : ∀ (u : S) (H1 : Heap) (locs1 : List Loc), postv u → va_P D jcl (wq ++ wr u) H1 → va_D A (wq ++ wr u) → va_S A H0 H1 locs1 → W p l e R s m args below meth c H1 locs1 (cells + mc) (slots + ms) Q (F0 m (pc + 3) ls rest)) : W p l e R s m args below meth c H locs cells slots Q (F0 m pc ls st0) := by
  have hF := va_free hD hS hA isC hC
  refine va_callv (va_runI F (hM H.size) hcw ⟨jPc_blind D g wc H.size _, fun U hU hW => ⟨rfl, jPc_pre hK hP hD isC hC hnC hU hW⟩⟩ rfl hln hsize hst (lv_room hroom) hdg hf) hS (fun q _ h => hF q h) hF (fun u t H1 locs1 ht _ hw hB _ hk hS => ?_)
  obtain ⟨hP1, hD1⟩ := jc_join hP hD isC isR hC hR hn hdis hF ht hB hk
  exact kk u H1 locs1 hw hP1 hD1 hS
theorem jn_Iz {Z : List Cond} (F : CallFix p m c cc nL s args Ts own) (hM : jNz l D g y w Z fr lo mc ms (.ref b :: As) wc postv wr) (hZw : ∀ U : State, s.WarmedH U.vm → ∀ z ∈ Z, va_Nw z U) (hbl : FrameBlind (va_Pc (.ref b :: As) (fun U => jPc D g wc H.size U ∧ ∀ z ∈ Z, va_Nw z U))) (hcw : CallB R s args own index y bytes maxL none w (jRx fr lo mc ms) mc ms n ∧ y.name = "<init>" ∧ (Cond.instanceMethod y).before args s = true) (hK : va_K D jcl (jT g) s) (hP : va_P D jcl ws H) (hD : va_D A ws) (hS : va_S A H0 H locs) (hA : ∀ q, H0.size ≤ q → A q) (isC isR : List Nat) (hC : isC.map (fun i => ws[i]?) = wc.map some) (hR : isR.map (fun i => ws[i]?) = wq.map some) (hnC : va_nd isC = true) (hn : va_nd isR = true) (hdis : ∀ i ∈ isR, i ∉ isC)
    (hst : st0 = As.reverse ++ .ref b :: rest) (hln : As.length = n) (hsize : ls.size = nL) (hroom : (rest.map fun v => v.category).sum ≤ 8) (hdg : decode cc pc = .ok (.invokespecial index, 3)) (hf : cells + mc ≤ R.cells ∧ slots + ms ≤ R.slots)
    (kk : ∀ (u : S) (H1 : Heap) (locs1 : List Loc), postv u → va_P D jcl (wq ++ wr u) H1 → va_D A (wq ++ wr u) → va_S A H0 H1 locs1 → W p l e R s m args below meth c H1 locs1 (cells + mc) (slots + ms) Q (F0 m (pc + 3) ls rest)) : W p l e R s m args below meth c H locs cells slots Q (F0 m pc ls st0) := by
  have hF := va_free hD hS hA isC hC
  refine va_callv (va_runI F (hM H.size) hcw ⟨hbl, fun U hU hW => ⟨rfl, jPc_pre hK hP hD isC hC hnC hU hW, hZw U hW⟩⟩ rfl hln hsize hst (lv_room hroom) hdg hf) hS (fun q _ h => hF q h) hF (fun u t H1 locs1 ht _ hw hB _ hk hS => ?_)
  obtain ⟨hP1, hD1⟩ := jc_join hP hD isC isR hC hR hn hdis hF ht hB hk
  exact kk u H1 locs1 hw hP1 hD1 hS
theorem jn_IN {host : String} (F : CallFix p m c cc nL s args Ts own) (hM : jN l D g y w fr lo mc ms (.ref b :: As) wc postv wr) (hcw : va_CN R s args own index y host bytes maxL none w (jRx fr lo mc ms) mc ms n ∧ y.name = "<init>" ∧ (Cond.instanceMethod y).before args s = true) (hK : va_K D jcl (jT g) s) (hP : va_P D jcl ws H) (hD : va_D A ws) (hS : va_S A H0 H locs) (hA : ∀ q, H0.size ≤ q → A q) (isC isR : List Nat) (hC : isC.map (fun i => ws[i]?) = wc.map some) (hR : isR.map (fun i => ws[i]?) = wq.map some) (hnC : va_nd isC = true) (hn : va_nd isR = true) (hdis : ∀ i ∈ isR, i ∉ isC)
    (hst : st0 = As.reverse ++ .ref b :: rest) (hln : As.length = n) (hsize : ls.size = nL) (hroom : (rest.map fun v => v.category).sum ≤ 8) (hdg : decode cc pc = .ok (.invokespecial index, 3)) (hf : cells + mc ≤ R.cells ∧ slots + ms ≤ R.slots)
    (kk : ∀ (u : S) (H1 : Heap) (locs1 : List Loc), postv u → va_P D jcl (wq ++ wr u) H1 → va_D A (wq ++ wr u) → va_S A H0 H1 locs1 → W p l e R s m args below meth c H1 locs1 (cells + mc) (slots + ms) Q (F0 m (pc + 3) ls rest)) : W p l e R s m args below meth c H locs cells slots Q (F0 m pc ls st0) := by
  have hF := va_free hD hS hA isC hC
  refine va_callv (va_runIN F (hM H.size) hcw ⟨jPc_blind D g wc H.size _, fun U hU hW => ⟨rfl, jPc_pre hK hP hD isC hC hnC hU hW⟩⟩ rfl hln hsize hst (lv_room hroom) hdg hf) hS (fun q _ h => hF q h) hF (fun u t H1 locs1 ht _ hw hB _ hk hS => ?_)
  obtain ⟨hP1, hD1⟩ := jc_join hP hD isC isR hC hR hn hdis hF ht hB hk
  exact kk u H1 locs1 hw hP1 hD1 hS
theorem jn_newI (hx : p.tables.exec = Jvm.exec) (hb : c.code = cc) (harr : (Cond.arrayClass .int).before args s = true) (hK : va_K D jcl (jT g) s) (hP : va_P D jcl ws H) (hD : va_D A ws) (hS : va_S A H0 H locs) (hA : ∀ q, H0.size ≤ q → A q) {n : Int} (N : Nat) (hn : n = (N : Int)) (hN : N ≤ 100000) (hcells : cells + 1 ≤ R.cells) (hslots : slots + N ≤ R.slots) (hdg : decode cc pc = .ok (.newarray .int, 2))
    (kk : ∀ (q : Nat) (H1 : Heap), va_P D jcl (ws ++ [(q, .inl (g.1, N, .inl (aI fun _ => 0)))]) H1 → va_D A (ws ++ [(q, .inl (g.1, N, .inl (aI fun _ => 0)))]) → va_S A H0 H1 locs → W p l e R s m args below meth c H1 locs (cells + 1) (slots + N) Q (F0 m (pc + 2) ls (.ref q :: rest))) : W p l e R s m args below meth c H locs cells slots Q (F0 m pc ls (.int (jI n) :: rest)) := by
  subst hn
  have hr : rI (N : Int) := ⟨by omega, by omega⟩
  refine va_newa (atype := .int) (ty := .int) (N' := N) (a0 := (N, .inl (aI fun _ => 0))) hx hb harr rfl hK hP hD hS hA (fun cA => rfl) (fun h => by have := (jI_lt hr rI_0).mp h; omega) ?_ (by show N * 4 ≤ _; omega) hcells hslots hdg (fun q cA H1 hK1 hP1 hD1 hS1 => ?_)
  · have := jI_cl (z := (N : Int)) (n := N + 1) ⟨by omega, by omega⟩ (by omega)
    omega
  · have e1 := (hK.2 0 (g.1, .int) rfl).2
    have e2 := (hK1.2 3 (cA, .int) rfl).2
    have e : g.1 = cA := Option.some.inj ((va_nm_int e1).symm.trans (va_nm_int e2))
    subst e
    exact kk q H1 hP1 hD1 hS1
theorem jn_newL (hx : p.tables.exec = Jvm.exec) (hb : c.code = cc) (harr : (Cond.arrayClass .long).before args s = true) (hK : va_K D jcl (jT g) s) (hP : va_P D jcl ws H) (hD : va_D A ws) (hS : va_S A H0 H locs) (hA : ∀ q, H0.size ≤ q → A q) {n : Int} (N : Nat) (hn : n = (N : Int)) (hN : N ≤ 100000) (hcells : cells + 1 ≤ R.cells) (hslots : slots + N ≤ R.slots) (hdg : decode cc pc = .ok (.newarray .long, 2))
    (kk : ∀ (q : Nat) (H1 : Heap), va_P D jcl (ws ++ [(q, .inl (g.2.1, N, .inr (.inl (aL fun _ => 0))))]) H1 → va_D A (ws ++ [(q, .inl (g.2.1, N, .inr (.inl (aL fun _ => 0))))]) → va_S A H0 H1 locs → W p l e R s m args below meth c H1 locs (cells + 1) (slots + N) Q (F0 m (pc + 2) ls (.ref q :: rest))) : W p l e R s m args below meth c H locs cells slots Q (F0 m pc ls (.int (jI n) :: rest)) := by
  subst hn
  have hr : rI (N : Int) := ⟨by omega, by omega⟩
  refine va_newa (atype := .long) (ty := .long) (N' := N) (a0 := (N, .inr (.inl (aL fun _ => 0)))) hx hb harr rfl hK hP hD hS hA (fun cA => rfl) (fun h => by have := (jI_lt hr rI_0).mp h; omega) ?_ (by show N * 8 ≤ _; omega) hcells hslots hdg (fun q cA H1 hK1 hP1 hD1 hS1 => ?_)
  · have := jI_cl (z := (N : Int)) (n := N + 1) ⟨by omega, by omega⟩ (by omega)
    omega
  · have e1 := (hK.2 1 (g.2.1, .long) rfl).2
    have e2 := (hK1.2 3 (cA, .long) rfl).2
    have e : g.2.1 = cA := Option.some.inj ((va_nm_long e1).symm.trans (va_nm_long e2))
    subst e
    exact kk q H1 hP1 hD1 hS1
theorem jn_newZ (hx : p.tables.exec = Jvm.exec) (hb : c.code = cc) (harr : (Cond.arrayClass .boolean).before args s = true) (hK : va_K D jcl (jT g) s) (hP : va_P D jcl ws H) (hD : va_D A ws) (hS : va_S A H0 H locs) (hA : ∀ q, H0.size ≤ q → A q) {n : Int} (N : Nat) (hn : n = (N : Int)) (hN : N ≤ 100000) (hcells : cells + 1 ≤ R.cells) (hslots : slots + N ≤ R.slots) (hdg : decode cc pc = .ok (.newarray .boolean, 2))
    (kk : ∀ (q : Nat) (H1 : Heap), va_P D jcl (ws ++ [(q, .inl (g.2.2, N, .inl (aI fun _ => 0)))]) H1 → va_D A (ws ++ [(q, .inl (g.2.2, N, .inl (aI fun _ => 0)))]) → va_S A H0 H1 locs → W p l e R s m args below meth c H1 locs (cells + 1) (slots + N) Q (F0 m (pc + 2) ls (.ref q :: rest))) : W p l e R s m args below meth c H locs cells slots Q (F0 m pc ls (.int (jI n) :: rest)) := by
  subst hn
  have hr : rI (N : Int) := ⟨by omega, by omega⟩
  refine va_newa (atype := .boolean) (ty := .boolean) (N' := N) (a0 := (N, .inl (aI fun _ => 0))) hx hb harr rfl hK hP hD hS hA (fun cA => rfl) (fun h => by have := (jI_lt hr rI_0).mp h; omega) ?_ (by show N * 1 ≤ _; omega) hcells hslots hdg (fun q cA H1 hK1 hP1 hD1 hS1 => ?_)
  · have := jI_cl (z := (N : Int)) (n := N + 1) ⟨by omega, by omega⟩ (by omega)
    omega
  · have e1 : s.vm.findClass "[Z" = some g.2.2 := (hK.2 2 (g.2.2, .boolean) rfl).2
    have e2 : s.vm.findClass "[Z" = some cA := (hK1.2 3 (cA, .boolean) rfl).2
    have e : g.2.2 = cA := Option.some.inj (e1.symm.trans e2)
    subst e
    exact kk q H1 hP1 hD1 hS1
/-- a row of ints says nothing behind its length: any function that agrees will do -/
theorem jP_cong {f f2 : Int → Int} {cA : ClassId} {N : Nat} {a : Nat} (hP : va_P D jcl ws H) (i : Nat) (hi : ws[i]? = some (a, .inl (cA, N, .inl (aI f)))) (h : ∀ k : Int, 0 ≤ k → k < (N : Int) → f k = f2 k) : va_P D jcl (ws.set i (a, .inl (cA, N, .inl (aI f2)))) H := by
  intro k q hq
  by_cases hk : i = k
  · subst hk
    rw [List.getElem?_set_self (List.getElem?_eq_some_iff.mp hi).1] at hq
    cases hq
    have h1 := hP i _ hi
    have e : vp_cell cA (N, .inl (aI f2)) = vp_cell cA (N, .inl (aI f)) := by
      rw [vp_cell_i, vp_cell_i]
      unfold arrV
      congr 1
      congr 1
      funext j
      show Value.int (jI (f2 _)) = Value.int (jI (f _))
      rw [h (j.val : Int) (by omega) (by have := j.isLt; omega)]
    show H[a]? = some (vp_cell cA (N, .inl (aI f2)))
    rw [e]
    exact h1
  · rw [List.getElem?_set_ne hk] at hq
    exact hP k q hq
theorem jD_cong {e0 e2 : va_E} {a : Nat} (hD : va_D A ws) (i : Nat) (hi : ws[i]? = some (a, e0)) : va_D A (ws.set i (a, e2)) := hD.set hi
end JN
