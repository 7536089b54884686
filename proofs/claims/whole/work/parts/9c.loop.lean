/-! the loop of the law -/
set_option maxHeartbeats 4000000 in
set_option maxRecDepth 100000 in
theorem lw_head {p : Program} {l : Launch} {e : Env} {s : State} {m : MethodId} {below : List Frame} {meth : Method} {c : Code} {A : Nat → Prop} {Q : State → Prop} {D : va_G} {g : ClassId × ClassId × ClassId} {b h : Nat} {ad : Nat → Nat} {hm : Nat} {md : Nat → Nat} {o : Nat} {ly : Int} {nl ln : Nat} {L9 : Nat} {xs : Nat → Int32} (hfl : l.stackTraces = false) (hx : p.tables.exec = Jvm.exec) (hb : c.code = cL_law) (hml : c.maxLocals = 8) (hown : s.vm.findClass RL = some m.cls) (hts : ∀ w ∈ lw_tbl, w.before #[Value.ref b] s = true) (hK : va_K D jcl (jT g) s) (hA : ∀ q, s.heap.size ≤ q → A q) (hE : jE A s s.heap) (hN : jNc s) (hX : va_X b L9 xs s s.heap) (hbl : b < s.heap.size) (hbA : ¬ A b) (hL : L9 ≤ 705) (hnl : nl < 2147483648 ∧ (nl : Int) = 40 * ly) (hln : ln < 2147483648 ∧ (ln : Int) = ly) (hly : 1 ≤ ly ∧ ly ≤ 64) (hr : meth.sig.returnType = ret) (hlocks : meth.locks = false) (hQ : Q = lw_Z below #[Value.ref b] s) (hAs : ∀ q, A q → s.heap.size ≤ q) {i : Int} {cc ss : Nat} (hiL : 1 ≤ i ∧ i ≤ 800) (hcc : cc ≤ 600128) (hss : ss ≤ 7301064) (nx : i + 11 ≤ (L9 : Int) → LW p l e s m below meth c A Q D g b h ad hm md o ly nl ln i 43 cc ss) : LW p l e s m below meth c A Q D g b h ad hm md o ly nl ln i 33 cc ss := by
  intro nt td tc ga fn fl fx fy fu fv bz L dn dl dx dy du dv dz pn pl px py pu pv pz LP ds sa da la lb lo hi tt gx gy gu gv gb gs gc sz wx wy wd hg cf kn gf tx ty ps pt sd co ns nd np nq tq sn sl bo tn tl ta TD qn qs qx qy DD rl rx ry rs rt tt2 mf nf LT ou hnt htd htc hga hsa hla hlb hlo hhi hB hbz hdi0 hkn hPB hpz hsi hms hmt edn hmd hd2 hmp hrT ht1 ht2 H locs ls hP hD hS hl
  refine lv_iload hx hb dL_law_33 (lv_at hl 4 rfl) ?_
  refine lv_aload_n hx hb dL_law_35 rfl (lv_at hl 0 rfl) ?_
  refine js_len hx hb hX hbl hbA hS dL_law_36 ?_
  refine jv_bipush hx hb (by decide) dL_law_37 ?_
  refine jv_isub hx hb dL_law_39 ?_
  refine jv_icmp_gt (tgt := 1819) hx hb ⟨by omega, by omega⟩ ⟨by omega, by omega⟩ dL_law_40 (by decide) (fun c40 => ?_) (fun c40 => ?_)
  · refine lv_iconst (v := 1) hx hb dL_law_1819 (by decide) ?_
    rw [hQ]
    refine va_forget (fun q hq => hAs _ (hS.2.2 q hq)) ?_
    refine W.widen hcc hss ?_
    exact lw_ret hx hb hr hlocks dL_law_1820
  · exact nx (by omega) nt td tc ga fn fl fx fy fu fv bz L dn dl dx dy du dv dz pn pl px py pu pv pz LP ds sa da la lb lo hi tt gx gy gu gv gb gs gc sz wx wy wd hg cf kn gf tx ty ps pt sd co ns nd np nq tq sn sl bo tn tl ta TD qn qs qx qy DD rl rx ry rs rt tt2 mf nf LT ou hnt htd htc hga hsa hla hlb hlo hhi hB hbz hdi0 hkn hPB hpz hsi hms hmt edn hmd hd2 hmp hrT ht1 ht2 _ _ _ hP hD hS hl

set_option maxHeartbeats 4000000 in
set_option maxRecDepth 100000 in
theorem lw_body {p : Program} {l : Launch} {e : Env} {s : State} {m : MethodId} {below : List Frame} {meth : Method} {c : Code} {A : Nat → Prop} {Q : State → Prop} {D : va_G} {g : ClassId × ClassId × ClassId} {b h : Nat} {ad : Nat → Nat} {hm : Nat} {md : Nat → Nat} {o : Nat} {ly : Int} {nl ln : Nat} {L9 : Nat} {xs : Nat → Int32} (hfl : l.stackTraces = false) (hx : p.tables.exec = Jvm.exec) (hb : c.code = cL_law) (hml : c.maxLocals = 8) (hown : s.vm.findClass RL = some m.cls) (hts : ∀ w ∈ lw_tbl, w.before #[Value.ref b] s = true) (hK : va_K D jcl (jT g) s) (hA : ∀ q, s.heap.size ≤ q → A q) (hE : jE A s s.heap) (hN : jNc s) (hX : va_X b L9 xs s s.heap) (hbl : b < s.heap.size) (hbA : ¬ A b) (hL : L9 ≤ 705) (hnl : nl < 2147483648 ∧ (nl : Int) = 40 * ly) (hln : ln < 2147483648 ∧ (ln : Int) = ly) (hly : 1 ≤ ly ∧ ly ≤ 64) {i : Int} {cc ss : Nat} (hiL : 1 ≤ i ∧ i + 11 ≤ (L9 : Int)) (hcc : cc + 8 ≤ 600128) (hss : ss + 64 ≤ 7301064) (nx : LW p l e s m below meth c A Q D g b h ad hm md o ly nl ln i 1813 (cc + 8) (ss + 64)) : LW p l e s m below meth c A Q D g b h ad hm md o ly nl ln i 43 cc ss := by
  intro nt td tc ga fn fl fx fy fu fv bz L dn dl dx dy du dv dz pn pl px py pu pv pz LP ds sa da la lb lo hi tt gx gy gu gv gb gs gc sz wx wy wd hg cf kn gf tx ty ps pt sd co ns nd np nq tq sn sl bo tn tl ta TD qn qs qx qy DD rl rx ry rs rt tt2 mf nf LT ou hnt htd htc hga hsa hla hlb hlo hhi hB hbz hdi0 hkn hPB hpz hsi hms hmt edn hmd hd2 hmp hrT ht1 ht2 H locs ls hP hD hS hl
  refine lv_aload_n hx hb dL_law_43 rfl (lv_at hl 0 rfl) ?_
  refine lv_iload hx hb dL_law_44 (lv_at hl 4 rfl) ?_
  refine js_ld (i := i) hx hb hX hbl hbA hS ⟨by omega, by omega⟩ hL dL_law_46 ?_
  refine jv_bipush hx hb (by decide) dL_law_47 ?_
  refine lv_iand hx hb dL_law_49 ?_
  obtain ⟨v, hv0, hv1, ev⟩ := lo15 (jI (sx xs i))
  rw [ev]
  by_cases cs0 : v = 0
  · refine jv_tabIn (off := 78) (tgt := 128) hx hb ⟨by omega, by omega⟩ dL_law_50 (by omega) (by rw [cs0]; rfl) (by decide) ?_
    exact lw_c0 hfl hx hb hml hown hts hK hA hE hN hX hbl hbA hL hnl hln hly hiL hcc hss nx nt td tc ga fn fl fx fy fu fv bz L dn dl dx dy du dv dz pn pl px py pu pv pz LP ds sa da la lb lo hi tt gx gy gu gv gb gs gc sz wx wy wd hg cf kn gf tx ty ps pt sd co ns nd np nq tq sn sl bo tn tl ta TD qn qs qx qy DD rl rx ry rs rt tt2 mf nf LT ou hnt htd htc hga hsa hla hlb hlo hhi hB hbz hdi0 hkn hPB hpz hsi hms hmt edn hmd hd2 hmp hrT ht1 ht2 _ _ _ hP hD hS hl
  by_cases cs1 : v = 1
  · refine jv_tabIn (off := 122) (tgt := 172) hx hb ⟨by omega, by omega⟩ dL_law_50 (by omega) (by rw [cs1]; rfl) (by decide) ?_
    exact lw_c1 hfl hx hb hml hown hts hK hA hE hN hX hbl hbA hL hnl hln hly hiL hcc hss nx nt td tc ga fn fl fx fy fu fv bz L dn dl dx dy du dv dz pn pl px py pu pv pz LP ds sa da la lb lo hi tt gx gy gu gv gb gs gc sz wx wy wd hg cf kn gf tx ty ps pt sd co ns nd np nq tq sn sl bo tn tl ta TD qn qs qx qy DD rl rx ry rs rt tt2 mf nf LT ou hnt htd htc hga hsa hla hlb hlo hhi hB hbz hdi0 hkn hPB hpz hsi hms hmt edn hmd hd2 hmp hrT ht1 ht2 _ _ _ hP hD hS hl
  by_cases cs2 : v = 2
  · refine jv_tabIn (off := 383) (tgt := 433) hx hb ⟨by omega, by omega⟩ dL_law_50 (by omega) (by rw [cs2]; rfl) (by decide) ?_
    exact lw_c2 hfl hx hb hml hown hts hK hA hE hN hX hbl hbA hL hnl hln hly hiL hcc hss nx nt td tc ga fn fl fx fy fu fv bz L dn dl dx dy du dv dz pn pl px py pu pv pz LP ds sa da la lb lo hi tt gx gy gu gv gb gs gc sz wx wy wd hg cf kn gf tx ty ps pt sd co ns nd np nq tq sn sl bo tn tl ta TD qn qs qx qy DD rl rx ry rs rt tt2 mf nf LT ou hnt htd htc hga hsa hla hlb hlo hhi hB hbz hdi0 hkn hPB hpz hsi hms hmt edn hmd hd2 hmp hrT ht1 ht2 _ _ _ hP hD hS hl
  by_cases cs3 : v = 3
  · refine jv_tabIn (off := 482) (tgt := 532) hx hb ⟨by omega, by omega⟩ dL_law_50 (by omega) (by rw [cs3]; rfl) (by decide) ?_
    exact lw_c3 hfl hx hb hml hown hts hK hA hE hN hX hbl hbA hL hnl hln hly hiL hcc hss nx nt td tc ga fn fl fx fy fu fv bz L dn dl dx dy du dv dz pn pl px py pu pv pz LP ds sa da la lb lo hi tt gx gy gu gv gb gs gc sz wx wy wd hg cf kn gf tx ty ps pt sd co ns nd np nq tq sn sl bo tn tl ta TD qn qs qx qy DD rl rx ry rs rt tt2 mf nf LT ou hnt htd htc hga hsa hla hlb hlo hhi hB hbz hdi0 hkn hPB hpz hsi hms hmt edn hmd hd2 hmp hrT ht1 ht2 _ _ _ hP hD hS hl
  by_cases cs4 : v = 4
  · refine jv_tabIn (off := 601) (tgt := 651) hx hb ⟨by omega, by omega⟩ dL_law_50 (by omega) (by rw [cs4]; rfl) (by decide) ?_
    exact lw_c4 hfl hx hb hml hown hts hK hA hE hN hX hbl hbA hL hnl hln hly hiL hcc hss nx nt td tc ga fn fl fx fy fu fv bz L dn dl dx dy du dv dz pn pl px py pu pv pz LP ds sa da la lb lo hi tt gx gy gu gv gb gs gc sz wx wy wd hg cf kn gf tx ty ps pt sd co ns nd np nq tq sn sl bo tn tl ta TD qn qs qx qy DD rl rx ry rs rt tt2 mf nf LT ou hnt htd htc hga hsa hla hlb hlo hhi hB hbz hdi0 hkn hPB hpz hsi hms hmt edn hmd hd2 hmp hrT ht1 ht2 _ _ _ hP hD hS hl
  by_cases cs5 : v = 5
  · refine jv_tabIn (off := 680) (tgt := 730) hx hb ⟨by omega, by omega⟩ dL_law_50 (by omega) (by rw [cs5]; rfl) (by decide) ?_
    exact lw_c5 hfl hx hb hml hown hts hK hA hE hN hX hbl hbA hL hnl hln hly hiL hcc hss nx nt td tc ga fn fl fx fy fu fv bz L dn dl dx dy du dv dz pn pl px py pu pv pz LP ds sa da la lb lo hi tt gx gy gu gv gb gs gc sz wx wy wd hg cf kn gf tx ty ps pt sd co ns nd np nq tq sn sl bo tn tl ta TD qn qs qx qy DD rl rx ry rs rt tt2 mf nf LT ou hnt htd htc hga hsa hla hlb hlo hhi hB hbz hdi0 hkn hPB hpz hsi hms hmt edn hmd hd2 hmp hrT ht1 ht2 _ _ _ hP hD hS hl
  by_cases cs6 : v = 6
  · refine jv_tabIn (off := 831) (tgt := 881) hx hb ⟨by omega, by omega⟩ dL_law_50 (by omega) (by rw [cs6]; rfl) (by decide) ?_
    exact lw_c6 hfl hx hb hml hown hts hK hA hE hN hX hbl hbA hL hnl hln hly hiL hcc hss nx nt td tc ga fn fl fx fy fu fv bz L dn dl dx dy du dv dz pn pl px py pu pv pz LP ds sa da la lb lo hi tt gx gy gu gv gb gs gc sz wx wy wd hg cf kn gf tx ty ps pt sd co ns nd np nq tq sn sl bo tn tl ta TD qn qs qx qy DD rl rx ry rs rt tt2 mf nf LT ou hnt htd htc hga hsa hla hlb hlo hhi hB hbz hdi0 hkn hPB hpz hsi hms hmt edn hmd hd2 hmp hrT ht1 ht2 _ _ _ hP hD hS hl
  by_cases cs7 : v = 7
  · refine jv_tabIn (off := 844) (tgt := 894) hx hb ⟨by omega, by omega⟩ dL_law_50 (by omega) (by rw [cs7]; rfl) (by decide) ?_
    exact lw_c7 hfl hx hb hml hown hts hK hA hE hN hX hbl hbA hL hnl hln hly hiL hcc hss nx nt td tc ga fn fl fx fy fu fv bz L dn dl dx dy du dv dz pn pl px py pu pv pz LP ds sa da la lb lo hi tt gx gy gu gv gb gs gc sz wx wy wd hg cf kn gf tx ty ps pt sd co ns nd np nq tq sn sl bo tn tl ta TD qn qs qx qy DD rl rx ry rs rt tt2 mf nf LT ou hnt htd htc hga hsa hla hlb hlo hhi hB hbz hdi0 hkn hPB hpz hsi hms hmt edn hmd hd2 hmp hrT ht1 ht2 _ _ _ hP hD hS hl
  by_cases cs8 : v = 8
  · refine jv_tabIn (off := 912) (tgt := 962) hx hb ⟨by omega, by omega⟩ dL_law_50 (by omega) (by rw [cs8]; rfl) (by decide) ?_
    exact lw_c8 hfl hx hb hml hown hts hK hA hE hN hX hbl hbA hL hnl hln hly hiL hcc hss nx nt td tc ga fn fl fx fy fu fv bz L dn dl dx dy du dv dz pn pl px py pu pv pz LP ds sa da la lb lo hi tt gx gy gu gv gb gs gc sz wx wy wd hg cf kn gf tx ty ps pt sd co ns nd np nq tq sn sl bo tn tl ta TD qn qs qx qy DD rl rx ry rs rt tt2 mf nf LT ou hnt htd htc hga hsa hla hlb hlo hhi hB hbz hdi0 hkn hPB hpz hsi hms hmt edn hmd hd2 hmp hrT ht1 ht2 _ _ _ hP hD hS hl
  by_cases cs9 : v = 9
  · refine jv_tabIn (off := 1069) (tgt := 1119) hx hb ⟨by omega, by omega⟩ dL_law_50 (by omega) (by rw [cs9]; rfl) (by decide) ?_
    exact lw_c9 hfl hx hb hml hown hts hK hA hE hN hX hbl hbA hL hnl hln hly hiL hcc hss nx nt td tc ga fn fl fx fy fu fv bz L dn dl dx dy du dv dz pn pl px py pu pv pz LP ds sa da la lb lo hi tt gx gy gu gv gb gs gc sz wx wy wd hg cf kn gf tx ty ps pt sd co ns nd np nq tq sn sl bo tn tl ta TD qn qs qx qy DD rl rx ry rs rt tt2 mf nf LT ou hnt htd htc hga hsa hla hlb hlo hhi hB hbz hdi0 hkn hPB hpz hsi hms hmt edn hmd hd2 hmp hrT ht1 ht2 _ _ _ hP hD hS hl
  by_cases cs10 : v = 10
  · refine jv_tabIn (off := 1156) (tgt := 1206) hx hb ⟨by omega, by omega⟩ dL_law_50 (by omega) (by rw [cs10]; rfl) (by decide) ?_
    exact lw_c10 hfl hx hb hml hown hts hK hA hE hN hX hbl hbA hL hnl hln hly hiL hcc hss nx nt td tc ga fn fl fx fy fu fv bz L dn dl dx dy du dv dz pn pl px py pu pv pz LP ds sa da la lb lo hi tt gx gy gu gv gb gs gc sz wx wy wd hg cf kn gf tx ty ps pt sd co ns nd np nq tq sn sl bo tn tl ta TD qn qs qx qy DD rl rx ry rs rt tt2 mf nf LT ou hnt htd htc hga hsa hla hlb hlo hhi hB hbz hdi0 hkn hPB hpz hsi hms hmt edn hmd hd2 hmp hrT ht1 ht2 _ _ _ hP hD hS hl
  by_cases cs11 : v = 11
  · refine jv_tabIn (off := 1348) (tgt := 1398) hx hb ⟨by omega, by omega⟩ dL_law_50 (by omega) (by rw [cs11]; rfl) (by decide) ?_
    exact lw_c11 hfl hx hb hml hown hts hK hA hE hN hX hbl hbA hL hnl hln hly hiL hcc hss nx nt td tc ga fn fl fx fy fu fv bz L dn dl dx dy du dv dz pn pl px py pu pv pz LP ds sa da la lb lo hi tt gx gy gu gv gb gs gc sz wx wy wd hg cf kn gf tx ty ps pt sd co ns nd np nq tq sn sl bo tn tl ta TD qn qs qx qy DD rl rx ry rs rt tt2 mf nf LT ou hnt htd htc hga hsa hla hlb hlo hhi hB hbz hdi0 hkn hPB hpz hsi hms hmt edn hmd hd2 hmp hrT ht1 ht2 _ _ _ hP hD hS hl
  by_cases cs12 : v = 12
  · refine jv_tabIn (off := 1427) (tgt := 1477) hx hb ⟨by omega, by omega⟩ dL_law_50 (by omega) (by rw [cs12]; rfl) (by decide) ?_
    exact lw_c12 hfl hx hb hml hown hts hK hA hE hN hX hbl hbA hL hnl hln hly hiL hcc hss nx nt td tc ga fn fl fx fy fu fv bz L dn dl dx dy du dv dz pn pl px py pu pv pz LP ds sa da la lb lo hi tt gx gy gu gv gb gs gc sz wx wy wd hg cf kn gf tx ty ps pt sd co ns nd np nq tq sn sl bo tn tl ta TD qn qs qx qy DD rl rx ry rs rt tt2 mf nf LT ou hnt htd htc hga hsa hla hlb hlo hhi hB hbz hdi0 hkn hPB hpz hsi hms hmt edn hmd hd2 hmp hrT ht1 ht2 _ _ _ hP hD hS hl
  by_cases cs13 : v = 13
  · refine jv_tabIn (off := 1483) (tgt := 1533) hx hb ⟨by omega, by omega⟩ dL_law_50 (by omega) (by rw [cs13]; rfl) (by decide) ?_
    exact lw_c13 hfl hx hb hml hown hts hK hA hE hN hX hbl hbA hL hnl hln hly hiL hcc hss nx nt td tc ga fn fl fx fy fu fv bz L dn dl dx dy du dv dz pn pl px py pu pv pz LP ds sa da la lb lo hi tt gx gy gu gv gb gs gc sz wx wy wd hg cf kn gf tx ty ps pt sd co ns nd np nq tq sn sl bo tn tl ta TD qn qs qx qy DD rl rx ry rs rt tt2 mf nf LT ou hnt htd htc hga hsa hla hlb hlo hhi hB hbz hdi0 hkn hPB hpz hsi hms hmt edn hmd hd2 hmp hrT ht1 ht2 _ _ _ hP hD hS hl
  by_cases cs14 : v = 14
  · refine jv_tabIn (off := 1583) (tgt := 1633) hx hb ⟨by omega, by omega⟩ dL_law_50 (by omega) (by rw [cs14]; rfl) (by decide) ?_
    exact lw_c14 hfl hx hb hml hown hts hK hA hE hN hX hbl hbA hL hnl hln hly hiL hcc hss nx nt td tc ga fn fl fx fy fu fv bz L dn dl dx dy du dv dz pn pl px py pu pv pz LP ds sa da la lb lo hi tt gx gy gu gv gb gs gc sz wx wy wd hg cf kn gf tx ty ps pt sd co ns nd np nq tq sn sl bo tn tl ta TD qn qs qx qy DD rl rx ry rs rt tt2 mf nf LT ou hnt htd htc hga hsa hla hlb hlo hhi hB hbz hdi0 hkn hPB hpz hsi hms hmt edn hmd hd2 hmp hrT ht1 ht2 _ _ _ hP hD hS hl
  by_cases cs15 : v = 15
  · refine jv_tabIn (off := 1707) (tgt := 1757) hx hb ⟨by omega, by omega⟩ dL_law_50 (by omega) (by rw [cs15]; rfl) (by decide) ?_
    exact lw_c15 hfl hx hb hml hown hts hK hA hE hN hX hbl hbA hL hnl hln hly hiL hcc hss nx nt td tc ga fn fl fx fy fu fv bz L dn dl dx dy du dv dz pn pl px py pu pv pz LP ds sa da la lb lo hi tt gx gy gu gv gb gs gc sz wx wy wd hg cf kn gf tx ty ps pt sd co ns nd np nq tq sn sl bo tn tl ta TD qn qs qx qy DD rl rx ry rs rt tt2 mf nf LT ou hnt htd htc hga hsa hla hlb hlo hhi hB hbz hdi0 hkn hPB hpz hsi hms hmt edn hmd hd2 hmp hrT ht1 ht2 _ _ _ hP hD hS hl
  exfalso; omega

set_option maxRecDepth 100000 in
theorem lw_inc {p : Program} {l : Launch} {e : Env} {s : State} {m : MethodId} {below : List Frame} {meth : Method} {c : Code} {A : Nat → Prop} {Q : State → Prop} {D : va_G} {g : ClassId × ClassId × ClassId} {b h : Nat} {ad : Nat → Nat} {hm : Nat} {md : Nat → Nat} {o : Nat} {ly : Int} {nl ln : Nat} (hx : p.tables.exec = Jvm.exec) (hb : c.code = cL_law) {i : Int} {cc ss : Nat} (nx : LW p l e s m below meth c A Q D g b h ad hm md o ly nl ln (i + 11) 33 cc ss) : LW p l e s m below meth c A Q D g b h ad hm md o ly nl ln i 1813 cc ss := by
  intro nt td tc ga fn fl fx fy fu fv bz L dn dl dx dy du dv dz pn pl px py pu pv pz LP ds sa da la lb lo hi tt gx gy gu gv gb gs gc sz wx wy wd hg cf kn gf tx ty ps pt sd co ns nd np nq tq sn sl bo tn tl ta TD qn qs qx qy DD rl rx ry rs rt tt2 mf nf LT ou hnt htd htc hga hsa hla hlb hlo hhi hB hbz hdi0 hkn hPB hpz hsi hms hmt edn hmd hd2 hmp hrT ht1 ht2 H locs ls hP hD hS hl
  refine jv_iinc (lv2 := [(4, .int (jI (i + 11))), (0, .ref b), (1, .ref h), (2, .ref hm), (3, .ref o)]) hx hb dL_law_1813 hl (k := 4) rfl (by decide) rfl (fun ls hl => ?_)
  refine lv_goto (tgt := 33) hx hb dL_law_1816 (by decide) ?_
  exact nx nt td tc ga fn fl fx fy fu fv bz L dn dl dx dy du dv dz pn pl px py pu pv pz LP ds sa da la lb lo hi tt gx gy gu gv gb gs gc sz wx wy wd hg cf kn gf tx ty ps pt sd co ns nd np nq tq sn sl bo tn tl ta TD qn qs qx qy DD rl rx ry rs rt tt2 mf nf LT ou hnt htd htc hga hsa hla hlb hlo hhi hB hbz hdi0 hkn hPB hpz hsi hms hmt edn hmd hd2 hmp hrT ht1 ht2 _ _ _ hP hD hS (lv_sub hl [1, 2, 3, 4, 0] rfl)

theorem lw_loop {p : Program} {l : Launch} {e : Env} {s : State} {m : MethodId} {below : List Frame} {meth : Method} {c : Code} {A : Nat → Prop} {Q : State → Prop} {D : va_G} {g : ClassId × ClassId × ClassId} {b h : Nat} {ad : Nat → Nat} {hm : Nat} {md : Nat → Nat} {o : Nat} {ly : Int} {nl ln : Nat} {L9 : Nat} {xs : Nat → Int32} (hfl : l.stackTraces = false) (hx : p.tables.exec = Jvm.exec) (hb : c.code = cL_law) (hml : c.maxLocals = 8) (hown : s.vm.findClass RL = some m.cls) (hts : ∀ w ∈ lw_tbl, w.before #[Value.ref b] s = true) (hK : va_K D jcl (jT g) s) (hA : ∀ q, s.heap.size ≤ q → A q) (hE : jE A s s.heap) (hN : jNc s) (hX : va_X b L9 xs s s.heap) (hbl : b < s.heap.size) (hbA : ¬ A b) (hL : L9 ≤ 705) (hnl : nl < 2147483648 ∧ (nl : Int) = 40 * ly) (hln : ln < 2147483648 ∧ (ln : Int) = ly) (hly : 1 ≤ ly ∧ ly ≤ 64) (hr : meth.sig.returnType = ret) (hlocks : meth.locks = false) (hQ : Q = lw_Z below #[Value.ref b] s) (hAs : ∀ q, A q → s.heap.size ≤ q) : ∀ (n : Nat) (i : Int) (cc ss : Nat), 1 ≤ i ∧ i ≤ 800 → (L9 : Int) < i + 11 + 11 * (n : Int) → cc + 8 * n ≤ 600128 → ss + 64 * n ≤ 7301064 → LW p l e s m below meth c A Q D g b h ad hm md o ly nl ln i 33 cc ss
  | 0, i, cc, ss, hi, hn, hcc, hss => lw_head hfl hx hb hml hown hts hK hA hE hN hX hbl hbA hL hnl hln hly hr hlocks hQ hAs hi (by omega) (by omega) (fun h => absurd h (by omega))
  | n + 1, i, cc, ss, hi, hn, hcc, hss => lw_head hfl hx hb hml hown hts hK hA hE hN hX hbl hbA hL hnl hln hly hr hlocks hQ hAs hi (by omega) (by omega) (fun h => lw_body hfl hx hb hml hown hts hK hA hE hN hX hbl hbA hL hnl hln hly ⟨hi.1, h⟩ (by omega) (by omega) (lw_inc hx hb (lw_loop hfl hx hb hml hown hts hK hA hE hN hX hbl hbA hL hnl hln hly hr hlocks hQ hAs n (i + 11) (cc + 8) (ss + 64) ⟨by omega, by omega⟩ (by omega) (by omega) (by omega))))
