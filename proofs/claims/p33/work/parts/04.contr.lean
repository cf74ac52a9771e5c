/-! contracts over ghost heaps, and calls by them -/
def zA (G : zG) (sz : Nat) : Nat → Prop := fun q => (∃ x : Nat × zE, G q = some x) ∨ sz ≤ q
def zPre (D : va_G) (G : zG) (sz : Nat) (U : State) : Prop := U.heap.size = sz ∧ va_K D vwCl [] U ∧ zP D U G U.heap
def zQ (D : va_G) (G : zG) (sz : Nat) (Post : Option Value → zG → Prop) : Array Value → State → Outcome → State → Prop := fun _ st oc t =>
  (∃ (v : Option Value) (G' : zG), oc = .returned v ∧ Post v G' ∧ zP D t G' t.heap ∧ ∀ (a : Nat) (x : Nat × zE), G' a = some x → zA G sz a) ∧ va_F (zA G sz) st t
/-- method y, called on av over a heap that G describes: it returns, and Post holds of the answer and of what describes the heap then -/
def zMet (D : va_G) (l : Launch) (y : MethodName) (ws : List Cond) (rm : Room) (av : List Value) (G : zG) (Post : Option Value → zG → Prop) : Prop :=
  ∀ sz : Nat, Met l y ws rm (va_Pc av (zPre D G sz)) (zQ D G sz Post) rm.cells rm.slots (zA G sz)
theorem zMet.imp {D : va_G} {l : Launch} {y : MethodName} {ws : List Cond} {rm : Room} {av : List Value} {G : zG} {P1 P2 : Option Value → zG → Prop} (h : zMet D l y ws rm av G P1) (hi : ∀ v G', P1 v G' → P2 v G') : zMet D l y ws rm av G P2 := by
  intro sz p e ha hc hk s m args below hf hap hP hK
  obtain ⟨k, o, h1, h2, h3, ⟨⟨v, G', e1, e2, e3⟩, e4⟩, e5⟩ := h sz p e ha hc hk s m args below hf hap hP hK
  exact ⟨k, o, h1, h2, h3, ⟨⟨v, G', e1, hi v G' e2, e3⟩, e4⟩, e5⟩
def zZ (below : List Frame) (D : va_G) (G : zG) (Post : Option Value → zG → Prop) (args : Array Value) (s : State) (rm : Room) : State → Prop := MQ below (zQ D G s.heap.size Post) args s rm.cells rm.slots (zA G s.heap.size)
theorem zPre.blind {D : va_G} {G : zG} {sz : Nat} {av : List Value} : FrameBlind (va_Pc av (zPre D G sz)) := fun a U g mk q => ⟨q.1, q.2.1, va_K.moved (u := U) (U := U.calling g mk a) (Vm.Alike.refl U.vm) q.2.2.1, zP.moved (s := U) (U := U.calling g mk a) (Vm.Alike.refl U.vm) q.2.2.2⟩
section ZM
variable {l : Launch} {D : va_G}
theorem zMet_of {y : MethodName} {ws ws' : List Cond} {rm : Room} {cc : ByteArray} {maxL : Nat} {ret : Option FieldType} {av : List Value} {G : zG} {Post : Option Value → zG → Prop} (hy : plainName y.cls = true) (hw : ws = Cond.code y cc maxL ret :: ws') (hlen : (lg_sl av).length ≤ maxL)
    (body : ∀ (p : Program) (e : Env) (s : State) (m : MethodId) (args : Array Value) (below : List Frame) (meth : Method) (c : Code), zC p s m args meth c D (zA G s.heap.size) cc maxL y.cls ws ret → meth.name = y.name →
      zV p l e rm s m args below meth c D (zA G s.heap.size) 0 0 (zZ below D G Post args s rm) G 0 (zin av ++ List.replicate (maxL - (zin av).length) none) []) : zMet D l y ws rm av G Post := by
  intro sz
  refine Met.ofW (cc := cc) (maxL := maxL) (ret := ret) hy hw ?_
  intro p e s m args below meth c s₁ B hml hv
  obtain ⟨rfl, rfl, hK, hP⟩ := hv
  have hC : zC p s m av.toArray meth c D (zA G s.heap.size) cc maxL y.cls ws ret := ⟨⟨B.exec, B.bytes, hml, findClass_of_methodNamed B.named, atoms_spec (ws := ws) B.pre⟩, hK, fun q h => Or.inr h, B.returns, B.notSynchronized⟩
  have h0 := body p e s m av.toArray below meth c hC (name_of_methodNamed B.named B.method).1 s.heap [] _ hP va_S.rf (fun a x hx => Or.inl ⟨x, hx⟩) (zL_entry av hlen)
  have e1 : entryFrame m av.toArray maxL = F0 m 0 (lg_sl av ++ List.replicate (maxL - (lg_sl av).length) Slot.unset).toArray [] := lg_entry_eq m av maxL
  rw [e1]
  exact h0
end ZM
section ZR
variable {p : Program} {l : Launch} {e : Env} {R : Room} {s : State} {m : MethodId} {args : Array Value} {below : List Frame} {meth : Method} {c : Code} {D : va_G} {A : Nat → Prop} {cells slots : Nat} {Q : State → Prop} {G : zG} {pc : Nat} {L : List (Option Value)} {st st0 : List Value}
variable {cc : ByteArray} {nL : Nat} {own : String} {Ts : List Cond} {ret : Option FieldType} {G0 : zG} {Post : Option Value → zG → Prop}
theorem zQ_end {H : Heap} {locs : List Loc} {ls : Array Slot} {v : Option Value} (hpost : Post v G) (hP : zP D s G H) (hS : va_S (zA G0 s.heap.size) s.heap H locs) (hG : ∀ (a : Nat) (x : Nat × zE), G a = some x → zA G0 s.heap.size a) : ∀ t : State, t.heap = H → s.WarmedH t.vm → zQ D G0 s.heap.size Post args s (.returned v) t :=
  fun t ht hW => ⟨⟨v, G, rfl, hpost, by rw [ht]; exact hP.moved hW.alike, hG⟩, hS.F ht⟩
theorem zz_ireturn {ty : FieldType} (C : zC p s m args meth c D (zA G0 s.heap.size) cc nL own Ts (some ty)) {v : Int32} (hdg : decode cc pc = .ok (.ireturn, 1)) (hn : narrow ty (.int v) = .int v) (hc : cells ≤ R.cells) (hs : slots ≤ R.slots) (hpost : Post (some (.int v)) G) : zV p l e R s m args below meth c D (zA G0 s.heap.size) cells slots (zZ below D G0 Post args s R) G pc L [.int v] :=
  fun H locs ls hP hS hG hL => W.widen hc hs (W.zret C.1.1 C.1.2.1 C.2.2.2.1 hn (zQ_end (ls := ls) hpost hP hS hG) hS.2.2 hdg C.2.2.2.2)
theorem zz_return (C : zC p s m args meth c D (zA G0 s.heap.size) cc nL own Ts none) (hdg : decode cc pc = .ok (.return_, 1)) (hc : cells ≤ R.cells) (hs : slots ≤ R.slots) (hpost : Post none G) : zV p l e R s m args below meth c D (zA G0 s.heap.size) cells slots (zZ below D G0 Post args s R) G pc L [] :=
  fun H locs ls hP hS hG hL => W.widen hc hs (W.vret C.1.1 C.1.2.1 C.2.2.2.1 (zQ_end (ls := ls) hpost hP hS hG) hS.2.2 hdg C.2.2.2.2)
theorem zz_lreturn (C : zC p s m args meth c D (zA G0 s.heap.size) cc nL own Ts (some .long)) {v : Int64} (hdg : decode cc pc = .ok (.lreturn, 1)) (hc : cells ≤ R.cells) (hs : slots ≤ R.slots) (hpost : Post (some (.long v)) G) : zV p l e R s m args below meth c D (zA G0 s.heap.size) cells slots (zZ below D G0 Post args s R) G pc L [.long v] :=
  fun H locs ls hP hS hG hL => W.widen hc hs (W.lret C.1.1 C.1.2.1 C.2.2.2.1 (zQ_end (ls := ls) hpost hP hS hG) hS.2.2 hdg C.2.2.2.2)
theorem zz_areturn {rt : FieldType} (C : zC p s m args meth c D (zA G0 s.heap.size) cc nL own Ts (some rt)) {v : Value} (hdg : decode cc pc = .ok (.areturn, 1)) (hrt : (∃ n, rt = .object n) ∨ ∃ t, rt = .array t) (hv : v = .null ∨ ∃ a, v = .ref a) (hc : cells ≤ R.cells) (hs : slots ≤ R.slots) (hpost : Post (some v) G) : zV p l e R s m args below meth c D (zA G0 s.heap.size) cells slots (zZ below D G0 Post args s R) G pc L [v] :=
  fun H locs ls hP hS hG hL => W.widen hc hs (W.aret C.1.1 C.1.2.1 C.2.2.2.1 hrt hv (zQ_end (ls := ls) hpost hP hS hG) hS.2.2 hdg C.2.2.2.2)
/-- behind a call -/
theorem zz_run {av : Array Value} {mc ms : Nat} (hA : ∀ q : Nat, s.heap.size ≤ q → A q) (hr : ∀ (H : Heap) (locs : List Loc) (ls : Array Slot), zP D s G H → zL ls L → va_Run p l e R s m args below meth c H locs cells slots mc ms (F0 m pc ls st0) st (zQ D G H.size Post av) (zA G H.size))
    (kk : ∀ (v : Option Value) (G' : zG), Post v G' → zV p l e R s m args below meth c D A (cells + mc) (slots + ms) Q G' (pc + 3) L (v.toList ++ st)) : zV p l e R s m args below meth c D A cells slots Q G pc L st0 := by
  intro H locs ls hP hS hG hL T hT X
  obtain ⟨v, st₀, t, T', L', h0, X', hL', e1, e2, ⟨⟨v', G', ev, hpost, hP', hdom⟩, hz, hk⟩, stp⟩ := hr H locs ls hP hL T hT X
  cases ev
  rw [h0] at hz hk
  have hsub : ∀ q : Nat, zA G H.size q → A q := fun q h => h.elim (fun ⟨x, hx⟩ => hG q x hx) (fun h => hA q (Nat.le_trans hS.1 h))
  have hal : t.vm.Alike s.vm := by rw [← e2]; exact X'.warmed.alike.symm
  obtain ⟨t2, a1, b1⟩ := kk v G' hpost T'.heap (locs ++ L') ls (by rw [e1]; exact hP'.moved hal) ⟨Nat.le_trans hS.1 (by rw [e1]; exact hz), fun q h1 h2 => by rw [e1, hk q (Nat.lt_of_lt_of_le h1 hS.1) (fun z => h2 (hsub q z))]; exact hS.2.1 q h1 h2, fun q hq => by
      rcases List.mem_append.mp hq with h | h
      · exact hS.2.2 q h
      · exact hsub _ (hL' q h)⟩ (fun a x hx => hsub a (hdom a x hx)) hL T' rfl X'
  exact ⟨t2, stp t2 a1, b1⟩
theorem zPre_at {U : State} {H : Heap} (hK : va_K D vwCl [] s) (hP : zP D s G H) (hU : U.heap = H) (hW : s.WarmedH U.vm) : zPre D G H.size U := ⟨by rw [hU], va_K.moved hW.alike hK, by rw [hU]; exact hP.moved hW.alike⟩
variable {y : MethodName} {bytes : ByteArray} {maxL n index : Nat} {retc : Option FieldType} {ws ws' : List Cond} {rm : Room} {As : List Value} {b : Nat} {Cn : String}
theorem zz_callV (C : zC p s m args meth c D A cc nL own Ts ret) (hM : zMet D l y ws rm (.ref b :: As) G Post) (hT : GoodIn Ts (wsV own index Cn y ws)) (hw : ws = Cond.code y bytes maxL retc :: ws') (n : Nat)
    (hd : y.cls = Cn ∧ y.cls ≠ "java/lang/invoke/MethodHandle" ∧ y.cls ≠ "java/lang/invoke/VarHandle" ∧ (parseMethodDescriptor y.desc).map (fun d => d.parameters.length) = some n) (hR : rm.frames + 1 ≤ R.frames ∧ 8 + (maxL + 11) + rm.locals ≤ R.locals)
    {t ci : Nat} {fs : List Value} {r : vw_C} (hb : G b = some (t, .inr (ci, fs))) (hc : vwCl[ci]? = some r) (hr : r.1 = Cn) (hn : As.length = n) (hdg : decode cc pc = .ok (.invokevirtual index, 3)) (hst : st0 = As.reverse ++ .ref b :: st) (hcat : (st.map fun v => v.category).sum ≤ 8) (hlen : L.length = nL) (hroom : cells + rm.cells ≤ R.cells ∧ slots + rm.slots ≤ R.slots)
    (kk : ∀ (v : Option Value) (G' : zG), Post v G' → zV p l e R s m args below meth c D A (cells + rm.cells) (slots + rm.slots) Q G' (pc + 3) L (v.toList ++ st)) : zV p l e R s m args below meth c D A cells slots Q G pc L st0 := by
  subst hst
  refine zz_run (av := (Value.ref b :: As).toArray) C.2.2.1 (fun H locs ls hP hL => ?_) kk
  refine va_runV (As := As) (rest := st) C.1 (hM H.size) (cwV (maxL := maxL) (bytes := bytes) (ret := retc) n (fun w h => C.ts h) hT hw rfl rfl hd hR) ⟨zPre.blind, ?_, fun U hU hW => ⟨rfl, zPre_at C.2.1 hP hU hW⟩⟩ rfl hn (hL.1.trans hlen) rfl (lv_room hcat) hdg hroom
  have h9 := va_recv (ws := [(b, .inr (ci, fs))]) (q0 := 0) C.2.1 (fun j q hj => by
    match j, hj with
    | 0, hj => cases hj; exact hP b t _ hb
    | j + 1, hj => simp at hj) hc rfl
  rw [hr] at h9
  exact h9
theorem zz_callS (C : zC p s m args meth c D A cc nL own Ts ret) (hM : zMet D l y ws rm As G Post) (hT : GoodIn Ts (va_wsS own index y ws)) (hw : ws = Cond.code y bytes maxL retc :: ws') (n : Nat)
    (hd : y.cls ≠ "java/lang/invoke/MethodHandle" ∧ y.cls ≠ "java/lang/invoke/VarHandle" ∧ (parseMethodDescriptor y.desc).map (fun d => d.parameters.length) = some n) (hR : rm.frames + 1 ≤ R.frames ∧ 8 + (maxL + 11) + rm.locals ≤ R.locals)
    (hn : As.length = n) (hdg : decode cc pc = .ok (.invokestatic index, 3)) (hst : st0 = As.reverse ++ st) (hcat : (st.map fun v => v.category).sum ≤ 8) (hlen : L.length = nL) (hroom : cells + rm.cells ≤ R.cells ∧ slots + rm.slots ≤ R.slots)
    (kk : ∀ (v : Option Value) (G' : zG), Post v G' → zV p l e R s m args below meth c D A (cells + rm.cells) (slots + rm.slots) Q G' (pc + 3) L (v.toList ++ st)) : zV p l e R s m args below meth c D A cells slots Q G pc L st0 := by
  subst hst
  refine zz_run (av := As.toArray) C.2.2.1 (fun H locs ls hP hL => ?_) kk
  exact va_runS (As := As) (rest := st) C.1 (hM H.size) (va_cwS (maxL := maxL) (bytes := bytes) (ret := retc) n (fun w h => C.ts h) hT hw rfl rfl hd hR) ⟨zPre.blind, fun U hU hW => ⟨rfl, zPre_at C.2.1 hP hU hW⟩⟩ rfl hn (hL.1.trans hlen) rfl (lv_room hcat) hdg hroom
theorem zz_callI (C : zC p s m args meth c D A cc nL own Ts ret) (hM : zMet D l y ws rm (.ref b :: As) G Post) (hT : GoodIn Ts ws) (hw : ws = Cond.code y bytes maxL none :: ws') (n : Nat) (hini : Cond.initialized y.cls ∈ Ts) (hlk : Cond.methodLink own index y ∈ Ts) (him : Cond.instanceMethod y ∈ Ts) (hy1 : y.name = "<init>")
    (hd : y.cls ≠ "java/lang/invoke/MethodHandle" ∧ y.cls ≠ "java/lang/invoke/VarHandle" ∧ (parseMethodDescriptor y.desc).map (fun d => d.parameters.length) = some n) (hR : rm.frames + 1 ≤ R.frames ∧ 8 + (maxL + 11) + rm.locals ≤ R.locals)
    (hn : As.length = n) (hdg : decode cc pc = .ok (.invokespecial index, 3)) (hst : st0 = As.reverse ++ .ref b :: st) (hcat : (st.map fun v => v.category).sum ≤ 8) (hlen : L.length = nL) (hroom : cells + rm.cells ≤ R.cells ∧ slots + rm.slots ≤ R.slots)
    (kk : ∀ (v : Option Value) (G' : zG), Post v G' → zV p l e R s m args below meth c D A (cells + rm.cells) (slots + rm.slots) Q G' (pc + 3) L (v.toList ++ st)) : zV p l e R s m args below meth c D A cells slots Q G pc L st0 := by
  subst hst
  refine zz_run (av := (Value.ref b :: As).toArray) C.2.2.1 (fun H locs ls hP hL => ?_) kk
  exact va_runI (As := As) (rest := st) C.1 (hM H.size) (cwI (maxL := maxL) (bytes := bytes) n (fun w h => C.ts h) hT hw rfl rfl (C.ts hini) (C.ts hlk) (C.ts him) hy1 hd hR) ⟨zPre.blind, fun U hU hW => ⟨rfl, zPre_at C.2.1 hP hU hW⟩⟩ rfl hn (hL.1.trans hlen) rfl (lv_room hcat) hdg hroom
theorem zz_callIN (C : zC p s m args meth c D A cc nL own Ts ret) {host : String} (hM : zMet D l y ws rm (.ref b :: As) G Post) (hT : GoodIn Ts ws) (hw : ws = Cond.code y bytes maxL none :: ws') (n : Nat) (hini : Cond.initialized y.cls ∈ Ts) (hlk : va_Nw (.methodLinkNest own index y host) s) (him : Cond.instanceMethod y ∈ Ts) (hy1 : y.name = "<init>")
    (hd : y.cls ≠ "java/lang/invoke/MethodHandle" ∧ y.cls ≠ "java/lang/invoke/VarHandle" ∧ (parseMethodDescriptor y.desc).map (fun d => d.parameters.length) = some n) (hR : rm.frames + 1 ≤ R.frames ∧ 8 + (maxL + 11) + rm.locals ≤ R.locals)
    (hn : As.length = n) (hdg : decode cc pc = .ok (.invokespecial index, 3)) (hst : st0 = As.reverse ++ .ref b :: st) (hcat : (st.map fun v => v.category).sum ≤ 8) (hlen : L.length = nL) (hroom : cells + rm.cells ≤ R.cells ∧ slots + rm.slots ≤ R.slots)
    (kk : ∀ (v : Option Value) (G' : zG), Post v G' → zV p l e R s m args below meth c D A (cells + rm.cells) (slots + rm.slots) Q G' (pc + 3) L (v.toList ++ st)) : zV p l e R s m args below meth c D A cells slots Q G pc L st0 := by
  subst hst
  refine zz_run (av := (Value.ref b :: As).toArray) C.2.2.1 (fun H locs ls hP hL => ?_) kk
  exact va_runIN (As := As) (rest := st) C.1 (hM H.size) ⟨va_cnB (maxL := maxL) (bytes := bytes) n (fun w h => C.ts h) hT hw rfl rfl hlk (C.ts hini) hd hR, hy1, C.ts him⟩ ⟨zPre.blind, fun U hU hW => ⟨rfl, zPre_at C.2.1 hP hU hW⟩⟩ rfl hn (hL.1.trans hlen) rfl (lv_room hcat) hdg hroom
end ZR
