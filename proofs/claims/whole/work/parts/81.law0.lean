/-! the law's own methods: a method that catches, its calls; the script's cells -/
def jNc (U : State) : Prop := va_Nc xI xS U ∧ va_Nc xI xA U ∧ va_Nc xS xI U ∧ va_Nc xS xA U ∧ va_Nc xA xI U ∧ va_Nc xA xS U
theorem jNc_mv {s U : State} (hv : s.vm.Alike U.vm) (h : jNc s) : jNc U := ⟨va_Nc.moved hv h.1, va_Nc.moved hv h.2.1, va_Nc.moved hv h.2.2.1, va_Nc.moved hv h.2.2.2.1, va_Nc.moved hv h.2.2.2.2.1, va_Nc.moved hv h.2.2.2.2.2⟩
def jPy (D : va_G) (g : ClassId × ClassId × ClassId) (ws : va_W) (sz : Nat) : State → Prop := fun U => jPx D g ws sz U ∧ jNc U
def jYi (l : Launch) (D : va_G) (g : ClassId × ClassId × ClassId) (y : MethodName) (w : List Cond) (fr lo mc ms : Nat) (av : List Value) (ws : va_W) {S : Type} (post : Int → S → Prop) (wr : S → va_W) : Prop :=
  ∀ sz : Nat, Met l y w (jRx fr lo mc ms) (va_Pc av (jPy D g ws sz)) (va_Qi (fun r u => ∃ z : Int, r = jI z ∧ post z u) (jB D ws wr sz) (va_A ws sz)) mc ms (va_A ws sz)
theorem jPy_blind (D : va_G) (g : ClassId × ClassId × ClassId) (ws : va_W) (sz : Nat) (av : List Value) : FrameBlind (va_Pc av (jPy D g ws sz)) := by
  intro a U f mk q
  obtain ⟨q0, q1, q2⟩ := q
  exact ⟨q0, (jPx_blind D g ws sz av a U f mk ⟨q0, q1⟩).2, jNc_mv (U := U.calling f mk a) (Vm.Alike.refl U.vm) q2⟩
theorem mt_ofWH {l : Launch} {y : MethodName} {ws ws' : List Cond} {rm : Room} {Pc : Array Value → State → Prop} {Qc : Array Value → State → Outcome → State → Prop} {mc ms : Nat} {free : Addr → Prop} {cc : ByteArray} {maxL : Nat} {ret : Option FieldType} {hh : List (Nat × Nat × Nat × Nat)}
    (hy : plainName y.cls = true) (hw : ws = Cond.codeWith y cc maxL ret hh :: ws')
    (body : ∀ p e s m args below meth c s₁, BodyLoose p l y (headSpec ws rm) cc maxL ret e s m args below meth c s₁ → c.maxLocals = maxL → Pc args s →
      W p l e (headSpec ws rm).room s m args below meth c s.heap [] 0 0 (MQ below Qc args s mc ms free) (entryFrame m args maxL)) : Met l y ws rm Pc Qc mc ms free := by
  refine MetFree.of_bodyS (code := cc) (maxLocals := maxL) (ret := ret) hy ?_ ?_
  · intro args s m h hn
    obtain ⟨m9, meth, c, hn9, h1, h2, h3, h4, -, h5, h6, -⟩ := Cond.codeWith_spec (atoms_spec (ws := ws) h _ (by rw [hw]; exact List.mem_cons_self))
    cases hn.symm.trans hn9
    exact ⟨meth, c, h1, h2, h3, h4, h5, h6⟩
  · intro p e s m args below meth c s₁ B hml hP _
    have hh0 : s₁.heap = s.heap := by rw [B.state]; rfl
    obtain ⟨t, a1, o, b1, b2, b3⟩ := body p e s m args below meth c s₁ B hml hP s₁ hh0 (Stand.of_body B)
    exact ⟨t, o, a1, b1, b2, ⟨b3.1, b3.2⟩⟩
section JY
variable {p : Program} {l : Launch} {e : Env} {R : Room} {s : State} {m : MethodId} {args : Array Value} {below : List Frame} {meth : Method} {c : Code} {H : Heap} {locs : List Loc} {cells slots : Nat} {Q : State → Prop}
variable {cc bytes : ByteArray} {pc nL maxL index n fr lo mc ms : Nat} {ls : Array Slot} {st0 rest : List Value} {D : va_G} {g : ClassId × ClassId × ClassId} {ws wc wq : va_W} {A : Nat → Prop} {S : Type} {wr : S → va_W} {y : MethodName} {w ws9 Ts : List Cond} {own C : String} {b : Nat} {As av : List Value} {post : Int → S → Prop} {hh : List (Nat × Nat × Nat × Nat)}
theorem jYi_of (hy : plainName y.cls = true) (hw : w = Cond.codeWith y cc maxL (some .int) hh :: ws9) (hfit : (lg_sl av).length ≤ maxL)
    (body : ∀ (p : Program) (e : Env) (s : State) (m : MethodId) (args : Array Value) (below : List Frame) (meth : Method) (c : Code) (Q : State → Prop) (A : Nat → Prop), p.tables.exec = Jvm.exec → c.code = cc → c.maxLocals = maxL → (∀ x ∈ w, x.before args s = true) → s.vm.findClass y.cls = some m.cls → va_K D jcl (jT g) s → (∀ q : Nat, s.heap.size ≤ q → A q) → jE A s s.heap → jNc s → c.exceptionTable.toList = tableOf hh →
      (∀ (z : Int) (u : S) (H : Heap) (locs : List Loc) (cells slots pc : Nat) (ls : Array Slot), post z u → va_P D jcl (wr u) H → va_D A (wr u) → va_S A s.heap H locs → decode cc pc = .ok (.ireturn, 1) → cells ≤ mc → slots ≤ ms → W p l e (jRx fr lo mc ms) s m args below meth c H locs cells slots Q (F0 m pc ls [.int (jI z)])) →
      ∀ ls : Array Slot, lv_has ls maxL (lv_args 0 av) → va_P D jcl ws s.heap → va_D A ws → W p l e (jRx fr lo mc ms) s m args below meth c s.heap [] 0 0 Q (F0 m 0 ls [])) : jYi l D g y w fr lo mc ms av ws post wr := by
  intro sz
  refine mt_ofWH (cc := cc) (maxL := maxL) (ret := (some .int)) (hh := hh) hy hw ?_
  intro p e s m args below meth c s₁ B hml hv
  obtain ⟨rfl, ⟨⟨hsz, hP, hK, hD0⟩, hE⟩, hN⟩ := hv
  have hlocks := B.notSynchronized
  have hr := B.returns
  have hts := atoms_spec (ws := w) B.pre
  subst hsz
  have hl := lv_entry av (n := maxL) hfit
  rw [lg_entry_eq]
  generalize (lg_sl av ++ List.replicate (maxL - (lg_sl av).length) Slot.unset).toArray = ls at hl ⊢
  refine body p e s m av.toArray below meth c _ (va_A ws s.heap.size) B.exec B.bytes hml hts (findClass_of_methodNamed B.named) hK (fun q h => Or.inr h) hE hN (vx_table (x := y) B (hts _ (by rw [hw]; exact List.mem_cons_self))) ?_ ls hl hP hD0.self
  intro z u H locs cells slots pc ls h1 h2 h3 hS hdg hc hs
  refine W.widen hc hs ?_
  exact W.iret (v := jI z) B.exec B.bytes hr (fun t ht hW => ⟨⟨jI z, u, rfl, ⟨z, rfl, h1⟩, by rw [ht]; exact h2, h3⟩, hS.F ht⟩) hS.2.2 hdg
theorem jy_S (F : CallFix p m c cc nL s args Ts own) (hM : jYi l D g y w fr lo mc ms As wc post wr) (hcw : vx_CSW R s args own index y bytes maxL (some .int) hh w (jRx fr lo mc ms) mc ms n) (hK : va_K D jcl (jT g) s) (hP : va_P D jcl ws H) (hD : va_D A ws) (hS : va_S A s.heap H locs) (hA : ∀ q, s.heap.size ≤ q → A q) (hE : jE A s s.heap) (hN : jNc s) (isC isR : List Nat) (hC : isC.map (fun i => ws[i]?) = wc.map some) (hR : isR.map (fun i => ws[i]?) = wq.map some) (hnC : va_nd isC = true) (hn : va_nd isR = true) (hdis : ∀ i ∈ isR, i ∉ isC)
    (hst : st0 = As.reverse ++ rest) (hln : As.length = n) (hsize : ls.size = nL) (hroom : (rest.map fun v => v.category).sum ≤ 8) (hdg : decode cc pc = .ok (.invokestatic index, 3)) (hf : cells + mc ≤ R.cells ∧ slots + ms ≤ R.slots)
    (kk : ∀ (z : Int) (u : S) (H1 : Heap) (locs1 : List Loc), post z u → va_P D jcl (wq ++ wr u) H1 → va_D A (wq ++ wr u) → va_S A s.heap H1 locs1 → W p l e R s m args below meth c H1 locs1 (cells + mc) (slots + ms) Q (F0 m (pc + 3) ls (.int (jI z) :: rest))) : W p l e R s m args below meth c H locs cells slots Q (F0 m pc ls st0) := by
  have hF := va_free hD hS hA isC hC
  refine va_calli (vx_runSW F (hM H.size) hcw ⟨jPy_blind D g wc H.size _, fun U hU hW => ⟨rfl, jPx_pre hK hP hD hS hE hF isC hC hnC hU hW, jNc_mv hW.alike hN⟩⟩ rfl hln hsize hst (lv_room hroom) hdg hf) hS (fun q _ h => hF q h) hF (fun r u t H1 locs1 ht _ hw hB _ hk hS => ?_)
  obtain ⟨z, rfl, hz⟩ := hw
  obtain ⟨hP1, hD1⟩ := jc_join hP hD isC isR hC hR hn hdis hF ht hB hk
  exact kk z u H1 locs1 hz hP1 hD1 hS
/-! the script -/
def sx (xs : Nat → Int32) (e : Int) : Int := (xs e.toNat).toInt
theorem sx_r (xs : Nat → Int32) (e : Int) : rI (sx xs e) := rI_of _
def sw (a b : Int) : Int := (wSl (jL a) 32 ||| (jL b &&& jL 4294967295)).toInt
theorem sw_e (a b : Int) : (wSl (jL a) 32 ||| (jL b &&& jL 4294967295)) = jL (sw a b) := (jL_as _).symm
theorem sw_r (a b : Int) : rL (sw a b) := rL_of _
theorem js_ld {L : Nat} {xs : Nat → Int32} {i : Int} (hx : p.tables.exec = Jvm.exec) (hb : c.code = cc) (hX : va_X b L xs s s.heap) (hbl : b < s.heap.size) (hbA : ¬ A b) (hS : va_S A s.heap H locs) (he : 0 ≤ i ∧ i < (L : Int)) (hL : L ≤ 705) (hdg : decode cc pc = .ok (.iaload, 1)) (kk : W p l e R s m args below meth c H locs cells slots Q (F0 m (pc + 1) ls (.int (jI (sx xs i)) :: rest))) : W p l e R s m args below meth c H locs cells slots Q (F0 m pc ls (.int (jI i) :: .ref b :: rest)) := by
  refine va_sld hx hb hX hbl hbA hS (jI_in he (by omega)) hdg ?_
  have h1 : (jI i).toNatClampNeg = i.toNat := by have := jI_cl he (by omega); omega
  have h2 : xs (jI i).toNatClampNeg = jI (sx xs i) := by rw [h1]; exact (jI_as _).symm
  rw [h2]
  exact kk
theorem js_len {L : Nat} {xs : Nat → Int32} (hx : p.tables.exec = Jvm.exec) (hb : c.code = cc) (hX : va_X b L xs s s.heap) (hbl : b < s.heap.size) (hbA : ¬ A b) (hS : va_S A s.heap H locs) (hdg : decode cc pc = .ok (.arraylength, 1)) (kk : W p l e R s m args below meth c H locs cells slots Q (F0 m (pc + 1) ls (.int (jI (L : Int)) :: rest))) : W p l e R s m args below meth c H locs cells slots Q (F0 m pc ls (.ref b :: rest)) := by
  refine va_slen hx hb hX hbl hbA hS hdg ?_
  rw [jI_nat]
  exact kk
/-- the low bits of an int -/
theorem lo15 (x : Int32) : ∃ v : Int, 0 ≤ v ∧ v ≤ 15 ∧ (x &&& jI 15) = jI v := by
  have key : ∀ y : BitVec 32, ∃ v : Nat, v ≤ 15 ∧ (y &&& 15#32) = BitVec.ofNat 32 v := by
    intro y
    refine ⟨(y &&& 15#32).toNat, ?_, by rw [BitVec.ofNat_toNat]; simp⟩
    rw [BitVec.toNat_and]
    exact Nat.and_le_right
  obtain ⟨v, hv, e⟩ := key x.toBitVec
  refine ⟨v, by omega, by omega, Int32.toBitVec_inj.mp ?_⟩
  rw [Int32.toBitVec_and]
  show x.toBitVec &&& 15#32 = _
  rw [e, ← jI_nat]
  rfl
end JY
