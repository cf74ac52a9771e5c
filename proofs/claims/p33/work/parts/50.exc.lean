/-! contracts that return or throw, over ghost heaps (what is thrown leaves the ghost heap as it was) -/
def zStrs : List (Nat × String) := [(45, "not running, or no pid is free"), (80, "KILL and STOP have no action"), (101, "a process has the group with this number"), (117, "this target or this group is not possible"), (127, "not the leader of a session, or the terminal is taken"), (129, "not the session's terminal, or not the session's group"), (179, "there is no such process"), (182, "an argument is out of range"), (184, "the caller is init, or not running"), (186, "no session has the terminal")]
def zCls3 : List String := ["java/lang/IndexOutOfBoundsException", "java/lang/IllegalArgumentException", "java/lang/IllegalStateException"]
def zFaces : List Cond := zCls3.map (fun X => Cond.castable X X) ++ [Cond.declares (Bundle.initS "java/lang/RuntimeException"), Cond.declares (Bundle.initS "java/lang/Exception"), Cond.declares (Bundle.initS Bundle.tN)]
theorem zFaces_ok : ∀ w ∈ zFaces, w.faceAtom = true ∧ w.onTables = true := by decide +kernel
def zSt8 (A : Nat → Prop) (U : State) : Prop := vx_Zq Bundle.tN "UNASSIGNED_STACK" Bundle.steD A U U.heap ∧ vx_Zq Bundle.tN "SUPPRESSED_SENTINEL" Bundle.listD A U U.heap ∧ (∀ q ∈ zStrs, ∃ a : Nat, vk_R RX2 q.1 q.2 a U) ∧ (∀ w ∈ zFaces, w.before #[] U = true) ∧ (∀ X ∈ zCls3, ∀ Y ∈ zCls3, X ≠ Y → va_Nc X Y U) ∧ va_Nw (.methodLinkNest RX2 17 yX0_init RX2) U ∧ va_AO "Signalpost$Proc" U
theorem zFace_moved {A A' : Array Value} {u U : State} {w : Cond} (hw : w.faceAtom = true ∧ w.onTables = true) (hvm : u.vm.Alike U.vm) (h : w.before A u = true) : w.before A' U = true := by
  have h1 := Cond.faceAtom_setVm hvm w hw.1 h
  rw [Cond.onTables_vm (A' := A') (U' := U) U.vm w hw.2] at h1
  exact h1
def zxPre (D : va_G) (G : zG) (sz : Nat) (U : State) : Prop := zPre D G sz U ∧ zSt8 (zA G sz) U
def zXC (D : va_G) (G : zG) (sz : Nat) (PX : String → Prop) : String → State → State → Prop := fun E st t => PX E ∧ zP D t G t.heap ∧ va_F (zA G sz) st t
def zxMet (D : va_G) (l : Launch) (y : MethodName) (ws : List Cond) (rm : Room) (av : List Value) (G : zG) (Post : Option Value → zG → Prop) (PX : String → Prop) : Prop :=
  ∀ sz : Nat, vx_Met l y ws rm (va_Pc av (zxPre D G sz)) (zQ D G sz Post) (zXC D G sz PX) rm.cells rm.slots (zA G sz)
def zxZ (below : List Frame) (D : va_G) (G : zG) (Post : Option Value → zG → Prop) (PX : String → Prop) (args : Array Value) (s : State) (rm : Room) : State → Prop := vx_MQ below (zQ D G s.heap.size Post) (zXC D G s.heap.size PX) args s rm.cells rm.slots (zA G s.heap.size)
theorem zxPre.blind {D : va_G} {G : zG} {sz : Nat} {av : List Value} : FrameBlind (va_Pc av (zxPre D G sz)) := fun a U g mk q => ⟨q.1, (zPre.blind (av := av) a U g mk ⟨q.1, q.2.1⟩).2, vx_Zq.moved (u := U) (U := U.calling g mk a) (Vm.Alike.refl U.vm) q.2.2.1, vx_Zq.moved (u := U) (U := U.calling g mk a) (Vm.Alike.refl U.vm) q.2.2.2.1, fun x hx => (q.2.2.2.2.1 x hx).imp (fun b hb => vk_R.same (u := U) (U := U.calling g mk a) rfl hb), fun w hw => zFace_moved (u := U) (U := U.calling g mk a) (zFaces_ok w hw) (Vm.Alike.refl U.vm) (q.2.2.2.2.2.1 w hw), fun X hX Y hY hn => va_Nc.moved (u := U) (U := U.calling g mk a) (Vm.Alike.refl U.vm) (q.2.2.2.2.2.2.1 X hX Y hY hn), va_Nw.same (u := U) (U := U.calling g mk a) rfl rfl q.2.2.2.2.2.2.2.1, va_AO.moved (u := U) (U := U.calling g mk a) (Vm.Alike.refl U.vm) q.2.2.2.2.2.2.2.2⟩
theorem zSt8.at {A : Nat → Prop} {s U : State} {H : Heap} {locs : List Loc} {G : zG} (h : zSt8 A s) (hS : va_S A s.heap H locs) (hG : ∀ (a : Nat) (x : Nat × zE), G a = some x → A a) (hA : ∀ q : Nat, s.heap.size ≤ q → A q) (hU : U.heap = H) (hW : s.WarmedH U.vm) : zSt8 (zA G H.size) U := by
  have hn : ∀ q : Nat, zA G H.size q → A q := fun q z => z.elim (fun ⟨x, hx⟩ => hG q x hx) (fun z => hA q (Nat.le_trans hS.1 z))
  refine ⟨?_, ?_, fun x hx => (h.2.2.1 x hx).imp (fun b hb => vk_R.warm hW hb), fun w hw => zFace_moved (zFaces_ok w hw) hW.alike (h.2.2.2.1 w hw), fun X hX Y hY hn => (h.2.2.2.2.1 X hX Y hY hn).moved hW.alike, va_Nw.warmM hW h.2.2.2.2.2.1, va_AO.moved hW.alike h.2.2.2.2.2.2⟩
  · rw [hU]
    exact vx_Zq.narrow (vx_Zq.moved hW.alike (vx_Zq.kept h.1 hS.2.1)) hn
  · rw [hU]
    exact vx_Zq.narrow (vx_Zq.moved hW.alike (vx_Zq.kept h.2.1 hS.2.1)) hn
theorem zxMet.imp {D : va_G} {l : Launch} {y : MethodName} {ws : List Cond} {rm : Room} {av : List Value} {G : zG} {P1 P2 : Option Value → zG → Prop} {X1 X2 : String → Prop} (h : zxMet D l y ws rm av G P1 X1) (hi : ∀ v G', P1 v G' → P2 v G') (hx : ∀ E, X1 E → X2 E) : zxMet D l y ws rm av G P2 X2 := by
  intro sz p e ha hc hk s m args below hf hap hP hK
  obtain ⟨k, o, h1, h2, h3, h4⟩ := h sz p e ha hc hk s m args below hf hap hP hK
  refine ⟨k, o, h1, h2, h3, ?_⟩
  rcases h4 with ⟨⟨⟨v, G', e1, e2, e3⟩, e4⟩, e5⟩ | ⟨q, e1, E, ce, L, ⟨f1, f2⟩, f3⟩
  · exact Or.inl ⟨⟨⟨v, G', e1, hi v G' e2, e3⟩, e4⟩, e5⟩
  · exact Or.inr ⟨q, e1, E, ce, L, ⟨hx E f1, f2⟩, f3⟩
section ZXM
variable {l : Launch} {D : va_G}
theorem zxMet_of {y : MethodName} {ws ws' : List Cond} {rm : Room} {cc : ByteArray} {maxL : Nat} {ret : Option FieldType} {av : List Value} {G : zG} {Post : Option Value → zG → Prop} {PX : String → Prop} (hy : plainName y.cls = true) (hw : ws = Cond.code y cc maxL ret :: ws') (hlen : (lg_sl av).length ≤ maxL)
    (body : ∀ (p : Program) (e : Env) (s : State) (m : MethodId) (args : Array Value) (below : List Frame) (meth : Method) (c : Code), zC p s m args meth c D (zA G s.heap.size) cc maxL y.cls ws ret → (∀ x ∈ c.exceptionTable.toList, False) → zSt8 (zA G s.heap.size) s →
      zV p l e rm s m args below meth c D (zA G s.heap.size) 0 0 (zxZ below D G Post PX args s rm) G 0 (zin av ++ List.replicate (maxL - (zin av).length) none) []) : zxMet D l y ws rm av G Post PX := by
  intro sz
  refine vx_ofW (cc := cc) (maxL := maxL) (ret := ret) hy hw ?_
  intro p e s m args below meth c s₁ B hml hnx hv
  obtain ⟨rfl, ⟨rfl, hK, hP⟩, h8⟩ := hv
  have hC : zC p s m av.toArray meth c D (zA G s.heap.size) cc maxL y.cls ws ret := ⟨⟨B.exec, B.bytes, hml, findClass_of_methodNamed B.named, atoms_spec (ws := ws) B.pre⟩, hK, fun q h => Or.inr h, B.returns, B.notSynchronized⟩
  have h0 := body p e s m av.toArray below meth c hC hnx h8 s.heap [] _ hP va_S.rf (fun a x hx => Or.inl ⟨x, hx⟩) (zL_entry av hlen)
  have e1 : entryFrame m av.toArray maxL = F0 m 0 (lg_sl av ++ List.replicate (maxL - (lg_sl av).length) Slot.unset).toArray [] := lg_entry_eq m av maxL
  rw [e1]
  exact h0
/-- .. a method with a table of its own -/
theorem zxMet_ofH {y : MethodName} {ws ws' : List Cond} {rm : Room} {cc : ByteArray} {maxL : Nat} {ret : Option FieldType} {hh : List (Nat × Nat × Nat × Nat)} {av : List Value} {G : zG} {Post : Option Value → zG → Prop} {PX : String → Prop} (hy : plainName y.cls = true) (hw : ws = Cond.codeWith y cc maxL ret hh :: ws') (hlen : (lg_sl av).length ≤ maxL)
    (body : ∀ (p : Program) (e : Env) (s : State) (m : MethodId) (args : Array Value) (below : List Frame) (meth : Method) (c : Code), zC p s m args meth c D (zA G s.heap.size) cc maxL y.cls ws ret → c.exceptionTable.toList = tableOf hh → zSt8 (zA G s.heap.size) s →
      zV p l e rm s m args below meth c D (zA G s.heap.size) 0 0 (zxZ below D G Post PX args s rm) G 0 (zin av ++ List.replicate (maxL - (zin av).length) none) []) : zxMet D l y ws rm av G Post PX := by
  intro sz
  refine vx_ofWH (cc := cc) (maxL := maxL) (ret := ret) hy hw ?_
  intro p e s m args below meth c s₁ B hml hv
  obtain ⟨rfl, ⟨rfl, hK, hP⟩, h8⟩ := hv
  have hts := atoms_spec (ws := ws) B.pre
  have hC : zC p s m av.toArray meth c D (zA G s.heap.size) cc maxL y.cls ws ret := ⟨⟨B.exec, B.bytes, hml, findClass_of_methodNamed B.named, hts⟩, hK, fun q h => Or.inr h, B.returns, B.notSynchronized⟩
  have htb : c.exceptionTable.toList = tableOf hh := vx_table (x := y) B (hts _ (by rw [hw]; exact List.mem_cons_self))
  have h0 := body p e s m av.toArray below meth c hC htb h8 s.heap [] _ hP va_S.rf (fun a x hx => Or.inl ⟨x, hx⟩) (zL_entry av hlen)
  have e1 : entryFrame m av.toArray maxL = F0 m 0 (lg_sl av ++ List.replicate (maxL - (lg_sl av).length) Slot.unset).toArray [] := lg_entry_eq m av maxL
  rw [e1]
  exact h0
end ZXM
/-- what is thrown over the frame (pc, L, st) -/
def zVX (p : Program) (l : Launch) (e : Env) (R : Room) (s : State) (m : MethodId) (args : Array Value) (below : List Frame) (meth : Method) (c : Code) (D : va_G) (A : Nat → Prop) (cells slots : Nat) (Q : State → Prop) (G : zG) (pc : Nat) (L : List (Option Value)) (st : List Value) (E : String) : Prop :=
  ∀ (H : Heap) (locs : List Loc) (ls : Array Slot) (q : Nat) (ce : Cell), zP D s G H → va_S A s.heap H locs → (∀ (a : Nat) (x : Nat × zE), G a = some x → A a) → zL ls L → H[q]? = some ce → ce.vm = .none → s.vm.findClass E = some ce.cls → vx_W p l e R s m args below meth c H locs cells slots Q (F0 m pc ls st) q
section ZXR
variable {p : Program} {l : Launch} {e : Env} {R : Room} {s : State} {m : MethodId} {args : Array Value} {below : List Frame} {meth : Method} {c : Code} {D : va_G} {A : Nat → Prop} {cells slots : Nat} {Q : State → Prop} {G : zG} {pc : Nat} {L : List (Option Value)} {st st0 : List Value}
variable {cc : ByteArray} {nL : Nat} {own : String} {Ts : List Cond} {ret : Option FieldType} {G0 : zG} {Post Post0 : Option Value → zG → Prop} {PX PX0 : String → Prop}
theorem zzx_ret (h : zV p l e R s m args below meth c D A cells slots (zZ below D G0 Post args s R) G pc L st) : zV p l e R s m args below meth c D A cells slots (zxZ below D G0 Post PX args s R) G pc L st := fun H locs ls hP hS hG hL => vx_ret (h H locs ls hP hS hG hL)
theorem zzx_out {E : String} (C : zC p s m args meth c D (zA G0 s.heap.size) cc nL own Ts ret) (hnx : ∀ x ∈ c.exceptionTable.toList, False) (hE : PX E) (hc : cells ≤ R.cells) (hs : slots ≤ R.slots) : zVX p l e R s m args below meth c D (zA G0 s.heap.size) cells slots (zxZ below D G0 Post PX args s R) G0 pc L st E :=
  fun H locs ls q ce hP hS hG hL h1 h2 h3 => vx_out (fun x hx => (hnx x hx).elim) C.2.2.2.2 h1 h2 h3 (fun t ht hW => ⟨hE, by rw [ht]; exact hP.moved hW, hS.F ht⟩) hS.2.2 hc hs
theorem zzx_throw {cls text : String} {names : List String} {ik is ic : Nat} (C : zC p s m args meth c D (zA G0 s.heap.size) cc nL own Ts ret) (hnx : ∀ x ∈ c.exceptionTable.toList, False) (h8 : zSt8 (zA G0 s.heap.size) s) (hl : l.stackTraces = false) (hown2 : own = RX2)
    (hE : PX cls) (htx : (is, text) ∈ zStrs) (hcls : Bundle.fit cls = true) (hnames : ∀ n ∈ names, Bundle.fit n = true) (hk : Cond.classLink own ik cls ∈ Ts) (hini : Cond.initialized cls ∈ Ts) (hat : ∀ w ∈ (vx_atS own ic cls names).filter goodWord, w ∈ Ts) (hbad : ∀ w ∈ (vx_atS own ic cls names).filter (fun w => !goodWord w), w ∈ zFaces) (hgood : ∀ w ∈ Cond.classLink own ik cls :: Cond.initialized cls :: vx_atS own ic cls names, vx_ot w = true)
    (d0 : decode cc pc = .ok (.new ik, 3)) (d3 : decode cc (pc + 3) = .ok (.dup, 1)) (d4 : decode cc (pc + 4) = .ok (.ldc is, 2)) (d6 : decode cc (pc + 6) = .ok (.invokespecial ic, 3)) (d9 : decode cc (pc + 9) = .ok (.athrow, 1))
    (hlen : L.length = nL) (hRf : names.length + 3 < R.frames) (hRl : (st.map fun v => v.category).sum + (13 * (names.length + 1) + 43) ≤ R.locals) (hc : cells + 1 ≤ R.cells) (hs : slots + 6 ≤ R.slots) :
    zV p l e R s m args below meth c D (zA G0 s.heap.size) cells slots (zxZ below D G0 Post PX args s R) G0 pc L st := by
  intro H locs ls hP hS hG hL
  obtain ⟨sa, hsa⟩ := h8.2.2.1 (is, text) htx
  subst hown2
  refine vx_throwS C.1.1 C.1.2.1 hl C.1.2.2.2.1 hcls hnames (C.ts hk) (C.ts hini) hsa (vx_hat (fun w hw => C.ts (hat w hw)) hbad (fun w hw => zFace_moved (zFaces_ok w hw) (Vm.Alike.refl s.vm) (h8.2.2.2.1 w hw))) hgood h8.1 h8.2.1 hS (by rw [C.1.2.2.1, hL.1, hlen]) d0 d3 d4 d6 d9 (fun x hx => (hnx x hx).elim) hRf hRl hc hs C.2.2.2.2 (fun t hW h1 h2 => ⟨hE, ?_, Nat.le_trans hS.1 h1, fun q h3 h4 => ?_⟩) hS.2.2 hc hs
  · intro a t9 e9 he
    exact ((hP a t9 e9 he).kept (h2 a (hP a t9 e9 he).lt)).moved hW
  · rw [h2 q (Nat.lt_of_lt_of_le h3 hS.1)]
    exact hS.2.1 q h3 h4
theorem zzx_run {av : Array Value} {mc ms : Nat} (hA : ∀ q : Nat, s.heap.size ≤ q → A q) (hr : ∀ (H : Heap) (locs : List Loc) (ls : Array Slot), zP D s G H → zL ls L → va_S A s.heap H locs → (∀ (a : Nat) (x : Nat × zE), G a = some x → A a) → vx_Run p l e R s m args below meth c H locs cells slots mc ms (F0 m pc ls st0) st (zQ D G H.size Post av) (zXC D G H.size PX) (zA G H.size))
    (kx : ∀ E : String, PX E → zVX p l e R s m args below meth c D A (cells + mc) (slots + ms) Q G pc L st E)
    (kk : ∀ (v : Option Value) (G' : zG), Post v G' → zV p l e R s m args below meth c D A (cells + mc) (slots + ms) Q G' (pc + 3) L (v.toList ++ st)) : zV p l e R s m args below meth c D A cells slots Q G pc L st0 := by
  intro H locs ls hP hS hG hL T hT X
  have hsub : ∀ q : Nat, zA G H.size q → A q := fun q h => h.elim (fun ⟨x, hx⟩ => hG q x hx) (fun h => hA q (Nat.le_trans hS.1 h))
  rcases hr H locs ls hP hL hS hG T hT X with ⟨v, st₀, t, T', L', h0, X', hL', e1, e2, ⟨⟨v', G', ev, hpost, hP', hdom⟩, hz, hk⟩, stp⟩ | ⟨q, st₀, t, T', L', E, ce, h0, X', hL', e1, e2, ⟨hE, hP', hz, hk⟩, g1, g2, g3, stp⟩
  · cases ev
    rw [h0] at hz hk
    have hal : t.vm.Alike s.vm := by rw [← e2]; exact X'.warmed.alike.symm
    obtain ⟨t2, a1, b1⟩ := kk v G' hpost T'.heap (locs ++ L') ls (by rw [e1]; exact hP'.moved hal) ⟨Nat.le_trans hS.1 (by rw [e1]; exact hz), fun q h1 h2 => by rw [e1, hk q (Nat.lt_of_lt_of_le h1 hS.1) (fun z => h2 (hsub q z))]; exact hS.2.1 q h1 h2, fun q hq => by
        rcases List.mem_append.mp hq with h | h
        · exact hS.2.2 q h
        · exact hsub _ (hL' q h)⟩ (fun a x hx => hsub a (hdom a x hx)) hL T' rfl X'
    exact ⟨t2, stp t2 a1, b1⟩
  · rw [h0] at hz hk
    have hal : t.vm.Alike s.vm := by rw [← e2]; exact X'.warmed.alike.symm
    obtain ⟨t2, a1, b1⟩ := kx E hE T'.heap (locs ++ L') ls q ce (by rw [e1]; exact hP'.moved hal) ⟨Nat.le_trans hS.1 (by rw [e1]; exact hz), fun q h1 h2 => by rw [e1, hk q (Nat.lt_of_lt_of_le h1 hS.1) (fun z => h2 (hsub q z))]; exact hS.2.1 q h1 h2, fun q hq => by
        rcases List.mem_append.mp hq with h | h
        · exact hS.2.2 q h
        · exact hsub _ (hL' q h)⟩ hG hL (by rw [e1]; exact g1) g2 g3 T' rfl X'
    exact ⟨t2, stp.trans a1, b1⟩
theorem zxPre_at {U : State} {H : Heap} {locs : List Loc} (hK : va_K D vwCl [] s) (hP : zP D s G H) (h8 : zSt8 A s) (hS : va_S A s.heap H locs) (hG : ∀ (a : Nat) (x : Nat × zE), G a = some x → A a) (hA : ∀ q : Nat, s.heap.size ≤ q → A q) (hU : U.heap = H) (hW : s.WarmedH U.vm) : zxPre D G H.size U := ⟨zPre_at hK hP hU hW, h8.at hS hG hA hU hW⟩
variable {y : MethodName} {bytes : ByteArray} {maxL n index : Nat} {retc : Option FieldType} {ws ws' : List Cond} {rm : Room} {As : List Value} {b : Nat} {Cn : String}
theorem zzx_callV (C : zC p s m args meth c D A cc nL own Ts ret) (h8 : zSt8 A s) (hM : zxMet D l y ws rm (.ref b :: As) G Post PX) (hT : GoodIn Ts (wsV own index Cn y ws)) (hw : ws = Cond.code y bytes maxL retc :: ws') (n : Nat)
    (hd : y.cls = Cn ∧ y.cls ≠ "java/lang/invoke/MethodHandle" ∧ y.cls ≠ "java/lang/invoke/VarHandle" ∧ (parseMethodDescriptor y.desc).map (fun d => d.parameters.length) = some n) (hR : rm.frames + 1 ≤ R.frames ∧ 8 + (maxL + 11) + rm.locals ≤ R.locals)
    {t ci : Nat} {fs : List Value} {r : vw_C} (hb : G b = some (t, .inr (ci, fs))) (hc : vwCl[ci]? = some r) (hr : r.1 = Cn) (hn : As.length = n) (hdg : decode cc pc = .ok (.invokevirtual index, 3)) (hst : st0 = As.reverse ++ .ref b :: st) (hcat : (st.map fun v => v.category).sum ≤ 8) (hlen : L.length = nL) (hroom : cells + rm.cells ≤ R.cells ∧ slots + rm.slots ≤ R.slots)
    (kx : ∀ E : String, PX E → zVX p l e R s m args below meth c D A (cells + rm.cells) (slots + rm.slots) Q G pc L st E)
    (kk : ∀ (v : Option Value) (G' : zG), Post v G' → zV p l e R s m args below meth c D A (cells + rm.cells) (slots + rm.slots) Q G' (pc + 3) L (v.toList ++ st)) : zV p l e R s m args below meth c D A cells slots Q G pc L st0 := by
  subst hst
  refine zzx_run (av := (Value.ref b :: As).toArray) C.2.2.1 (fun H locs ls hP hL hS hG => ?_) kx kk
  refine vx_runV (As := As) (rest := st) C.1 (hM H.size) (cwV (maxL := maxL) (bytes := bytes) (ret := retc) n (fun w h => C.ts h) hT hw rfl rfl hd hR) ⟨zxPre.blind, ?_, fun U hU hW => ⟨rfl, zxPre_at C.2.1 hP h8 hS hG C.2.2.1 hU hW⟩⟩ rfl hn (hL.1.trans hlen) rfl (lv_room hcat) hdg hroom
  have h9 := va_recv (ws := [(b, .inr (ci, fs))]) (q0 := 0) C.2.1 (fun j q hj => by
    match j, hj with
    | 0, hj => cases hj; exact hP b t _ hb
    | j + 1, hj => simp at hj) hc rfl
  rw [hr] at h9
  exact h9
theorem zzx_callS (C : zC p s m args meth c D A cc nL own Ts ret) (h8 : zSt8 A s) (hM : zxMet D l y ws rm As G Post PX) (hT : GoodIn Ts (va_wsS own index y ws)) (hw : ws = Cond.code y bytes maxL retc :: ws') (n : Nat)
    (hd : y.cls ≠ "java/lang/invoke/MethodHandle" ∧ y.cls ≠ "java/lang/invoke/VarHandle" ∧ (parseMethodDescriptor y.desc).map (fun d => d.parameters.length) = some n) (hR : rm.frames + 1 ≤ R.frames ∧ 8 + (maxL + 11) + rm.locals ≤ R.locals)
    (hn : As.length = n) (hdg : decode cc pc = .ok (.invokestatic index, 3)) (hst : st0 = As.reverse ++ st) (hcat : (st.map fun v => v.category).sum ≤ 8) (hlen : L.length = nL) (hroom : cells + rm.cells ≤ R.cells ∧ slots + rm.slots ≤ R.slots)
    (kx : ∀ E : String, PX E → zVX p l e R s m args below meth c D A (cells + rm.cells) (slots + rm.slots) Q G pc L st E)
    (kk : ∀ (v : Option Value) (G' : zG), Post v G' → zV p l e R s m args below meth c D A (cells + rm.cells) (slots + rm.slots) Q G' (pc + 3) L (v.toList ++ st)) : zV p l e R s m args below meth c D A cells slots Q G pc L st0 := by
  subst hst
  refine zzx_run (av := As.toArray) C.2.2.1 (fun H locs ls hP hL hS hG => ?_) kx kk
  exact vx_runS (As := As) (rest := st) C.1 (hM H.size) (va_cwS (maxL := maxL) (bytes := bytes) (ret := retc) n (fun w h => C.ts h) hT hw rfl rfl hd hR) ⟨zxPre.blind, fun U hU hW => ⟨rfl, zxPre_at C.2.1 hP h8 hS hG C.2.2.1 hU hW⟩⟩ rfl hn (hL.1.trans hlen) rfl (lv_room hcat) hdg hroom
/-- a static method with a table of its own -/
theorem zzx_callSW {hh : List (Nat × Nat × Nat × Nat)} (C : zC p s m args meth c D A cc nL own Ts ret) (h8 : zSt8 A s) (hM : zxMet D l y ws rm As G Post PX) (hT : GoodIn Ts (va_wsS own index y ws)) (hw : ws = Cond.codeWith y bytes maxL retc hh :: ws') (n : Nat)
    (hd : y.cls ≠ "java/lang/invoke/MethodHandle" ∧ y.cls ≠ "java/lang/invoke/VarHandle" ∧ (parseMethodDescriptor y.desc).map (fun d => d.parameters.length) = some n) (hR : rm.frames + 1 ≤ R.frames ∧ 8 + (maxL + 11) + rm.locals ≤ R.locals)
    (hn : As.length = n) (hdg : decode cc pc = .ok (.invokestatic index, 3)) (hst : st0 = As.reverse ++ st) (hcat : (st.map fun v => v.category).sum ≤ 8) (hlen : L.length = nL) (hroom : cells + rm.cells ≤ R.cells ∧ slots + rm.slots ≤ R.slots)
    (kx : ∀ E : String, PX E → zVX p l e R s m args below meth c D A (cells + rm.cells) (slots + rm.slots) Q G pc L st E)
    (kk : ∀ (v : Option Value) (G' : zG), Post v G' → zV p l e R s m args below meth c D A (cells + rm.cells) (slots + rm.slots) Q G' (pc + 3) L (v.toList ++ st)) : zV p l e R s m args below meth c D A cells slots Q G pc L st0 := by
  subst hst
  refine zzx_run (av := As.toArray) C.2.2.1 (fun H locs ls hP hL hS hG => ?_) kx kk
  exact vx_runSX (hh := hh) (As := As) (rest := st) C.1 (hM H.size) (vx_cwSW (maxL := maxL) (bytes := bytes) (ret := retc) n (fun w h => C.ts h) hT hw rfl rfl hd hR) ⟨zxPre.blind, fun U hU hW => ⟨rfl, zxPre_at C.2.1 hP h8 hS hG C.2.2.1 hU hW⟩⟩ rfl hn (hL.1.trans hlen) rfl (lv_room hcat) hdg hroom
/-- caught here -/
theorem zzx_catch {name E : String} (C : zC p s m args meth c D A cc nL own Ts ret) (pre : List ExceptionTableEntry) (x : ExceptionTableEntry) (suf : List ExceptionTableEntry) (hsplit : c.exceptionTable.toList = pre ++ x :: suf)
    (hpass : ∀ z ∈ pre, covers z pc = false ∨ (z.catchType ≠ 0 ∧ ∃ nm : String, (Cond.classLink own z.catchType nm).before args s = true ∧ va_Nc E nm s)) (hx : covers x pc = true) (h0 : x.catchType ≠ 0)
    (hlink : (Cond.classLink own x.catchType name).before args s = true) (hcast : (Cond.castable E name).before args s = true)
    (kk : ∀ q : Nat, zV p l e R s m args below meth c D A cells slots Q G x.handlerPc L [.ref q]) : zVX p l e R s m args below meth c D A cells slots Q G pc L st E :=
  fun H locs ls q ce hP hS hG hL h1 h2 h3 => vx_catch C.1.2.2.2.1 pre x suf hsplit hpass hx h0 hlink hcast h1 h2 h3 (kk q H locs ls hP hS hG hL)
end ZXR
