/-! a method of the library's own class: no row of the natives is hers -/
theorem jMet_ofWF {l : Launch} {y : MethodName} {ws ws' : List Cond} {rm : Room} {Pc : Array Value → State → Prop} {Qc : Array Value → State → Outcome → State → Prop} {mc ms : Nat} {free : Addr → Prop} {cc : ByteArray} {maxL : Nat} {ret : Option FieldType}
    (hy : plainFor y = true) (hw : ws = Cond.code y cc maxL ret :: ws')
    (body : ∀ p e s m args below meth c s₁, BodyLoose p l y (headSpec ws rm) cc maxL ret e s m args below meth c s₁ → c.maxLocals = maxL → Pc args s →
      W p l e (headSpec ws rm).room s m args below meth c s.heap [] 0 0 (MQ below Qc args s mc ms free) (entryFrame m args maxL)) : Met l y ws rm Pc Qc mc ms free := by
  refine MetFree.of_bodySF (code := cc) (maxLocals := maxL) (ret := ret) hy ?_ ?_
  · intro args s m h hn
    obtain ⟨meth, c, h1, h2, h3, h4, h5, h6, -, -⟩ := Cond.code_spec hn (atoms_spec (ws := ws) h _ (by rw [hw]; exact List.mem_cons_self))
    exact ⟨meth, c, h1, h2, h3, h4, h5, h6⟩
  · intro p e s m args below meth c s₁ B hml hP _
    have hh0 : s₁.heap = s.heap := by rw [B.state]; rfl
    obtain ⟨t, a1, o, b1, b2, b3⟩ := body p e s m args below meth c s₁ B hml hP s₁ hh0 (Stand.of_body B)
    exact ⟨t, o, a1, b1, b2, ⟨b3.1, b3.2⟩⟩
section JF
variable {cc : ByteArray} {maxL fr lo : Nat} {l : Launch} {D : va_G} {g : ClassId × ClassId × ClassId} {ws : va_W} {S : Type} {wr : S → va_W} {y : MethodName} {w : List Cond} {av : List Value} {post : Int → S → Prop}
theorem jMi_ofF {ws9 : List Cond} (hy : plainFor y = true) (hw : w = Cond.code y cc maxL (some .int) :: ws9) (hfit : (lg_sl av).length ≤ maxL)
    (body : ∀ (p : Program) (e : Env) (s : State) (m : MethodId) (args : Array Value) (below : List Frame) (meth : Method) (c : Code) (Q : State → Prop) (A : Nat → Prop), p.tables.exec = Jvm.exec → c.code = cc → c.maxLocals = maxL → (∀ x ∈ w, x.before args s = true) → s.vm.findClass y.cls = some m.cls → va_K D jcl (jT g) s → (∀ q : Nat, s.heap.size ≤ q → A q) →
      (∀ (z : Int) (u : S) (H : Heap) (locs : List Loc) (pc : Nat) (ls : Array Slot), post z u → va_P D jcl (wr u) H → va_D A (wr u) → va_S A s.heap H locs → decode cc pc = .ok (.ireturn, 1) → W p l e (jR fr lo) s m args below meth c H locs 0 0 Q (F0 m pc ls [.int (jI z)])) →
      ∀ ls : Array Slot, lv_has ls maxL (lv_args 0 av) → va_P D jcl ws s.heap → va_D A ws → W p l e (jR fr lo) s m args below meth c s.heap [] 0 0 Q (F0 m 0 ls [])) : jMi l D g y w fr lo av ws post wr := by
  intro sz
  refine jMet_ofWF (cc := cc) (maxL := maxL) (ret := (some .int)) hy hw ?_
  intro p e s m args below meth c s₁ B hml hv
  obtain ⟨rfl, hsz, hP, hK, hD0⟩ := hv
  have hlocks := B.notSynchronized
  have hr := B.returns
  subst hsz
  have hl := lv_entry av (n := maxL) hfit
  rw [lg_entry_eq]
  generalize (lg_sl av ++ List.replicate (maxL - (lg_sl av).length) Slot.unset).toArray = ls at hl ⊢
  refine body p e s m av.toArray below meth c _ (va_A ws s.heap.size) B.exec B.bytes hml (atoms_spec (ws := w) B.pre) (findClass_of_methodNamed B.named) hK (fun q h => Or.inr h) ?_ ls hl hP hD0.self
  intro z u H locs pc ls h1 h2 h3 hS hdg
  exact W.iret (v := jI z) B.exec B.bytes hr (fun t ht hW => ⟨⟨jI z, u, rfl, ⟨z, rfl, h1⟩, by rw [ht]; exact h2, h3⟩, hS.F ht⟩) hS.2.2 hdg
end JF
