/-! methods that read the script as well -/
theorem zsx_blind {D : va_G} {G : zG} {sz b Ln : Nat} {xs : Nat → Int32} {av : List Value} : FrameBlind (va_Pc av (fun U => zxPre D G sz U ∧ va_X b Ln xs U U.heap ∧ b < sz ∧ G b = none)) := fun a U g mk q => ⟨q.1, (zxPre.blind (av := av) a U g mk ⟨q.1, q.2.1⟩).2, va_X.moved (u := U) (U := U.calling g mk a) (Vm.Alike.refl U.vm) q.2.2.1, q.2.2.2⟩
/-- a method called where the script of Ln ints xs lies at b, outside what may change -/
def zsMet (D : va_G) (l : Launch) (y : MethodName) (ws : List Cond) (rm : Room) (av : List Value) (G : zG) (b Ln : Nat) (xs : Nat → Int32) (Post : Option Value → zG → Prop) (PX : String → Prop) : Prop :=
  ∀ sz : Nat, vx_Met l y ws rm (va_Pc av (fun U => zxPre D G sz U ∧ va_X b Ln xs U U.heap ∧ b < sz ∧ G b = none)) (zQ D G sz Post) (zXC D G sz PX) rm.cells rm.slots (zA G sz)
section ZSM
variable {l : Launch} {D : va_G} {b9 Ln : Nat} {xs : Nat → Int32}
theorem zsMet_of {y : MethodName} {ws ws' : List Cond} {rm : Room} {cc : ByteArray} {maxL : Nat} {ret : Option FieldType} {av : List Value} {G : zG} {Post : Option Value → zG → Prop} {PX : String → Prop} (hy : plainName y.cls = true) (hw : ws = Cond.code y cc maxL ret :: ws') (hlen : (lg_sl av).length ≤ maxL)
    (body : ∀ (p : Program) (e : Env) (s : State) (m : MethodId) (args : Array Value) (below : List Frame) (meth : Method) (c : Code), zC p s m args meth c D (zA G s.heap.size) cc maxL y.cls ws ret → (∀ x ∈ c.exceptionTable.toList, False) → zSt8 (zA G s.heap.size) s → va_X b9 Ln xs s s.heap → b9 < s.heap.size → ¬ zA G s.heap.size b9 →
      zV p l e rm s m args below meth c D (zA G s.heap.size) 0 0 (zxZ below D G Post PX args s rm) G 0 (zin av ++ List.replicate (maxL - (zin av).length) none) []) : zsMet D l y ws rm av G b9 Ln xs Post PX := by
  intro sz
  refine vx_ofW (cc := cc) (maxL := maxL) (ret := ret) hy hw ?_
  intro p e s m args below meth c s₁ B hml hnx hv
  obtain ⟨rfl, ⟨⟨rfl, hK, hP⟩, h8⟩, hX, hbl, hnone⟩ := hv
  have hC : zC p s m av.toArray meth c D (zA G s.heap.size) cc maxL y.cls ws ret := ⟨⟨B.exec, B.bytes, hml, findClass_of_methodNamed B.named, atoms_spec (ws := ws) B.pre⟩, hK, fun q h => Or.inr h, B.returns, B.notSynchronized⟩
  have hnA : ¬ zA G s.heap.size b9 := fun z => z.elim (fun ⟨x, hx⟩ => by rw [hnone] at hx; cases hx) (fun z => absurd hbl (Nat.not_lt.mpr z))
  have h0 := body p e s m av.toArray below meth c hC hnx h8 hX hbl hnA s.heap [] _ hP va_S.rf (fun a x hx => Or.inl ⟨x, hx⟩) (zL_entry av hlen)
  have e1 : entryFrame m av.toArray maxL = F0 m 0 (lg_sl av ++ List.replicate (maxL - (lg_sl av).length) Slot.unset).toArray [] := lg_entry_eq m av maxL
  rw [e1]
  exact h0
end ZSM
section ZSR
variable {p : Program} {l : Launch} {e : Env} {R : Room} {s : State} {m : MethodId} {args : Array Value} {below : List Frame} {meth : Method} {c : Code} {D : va_G} {A : Nat → Prop} {cells slots : Nat} {Q : State → Prop} {G : zG} {pc : Nat} {L : List (Option Value)} {st st0 : List Value}
variable {cc : ByteArray} {nL : Nat} {own : String} {Ts : List Cond} {ret : Option FieldType} {Post : Option Value → zG → Prop} {PX : String → Prop}
variable {y : MethodName} {bytes : ByteArray} {maxL n index : Nat} {retc : Option FieldType} {ws ws' : List Cond} {rm : Room} {As : List Value} {b9 Ln : Nat} {xs : Nat → Int32}
theorem zs_callS (C : zC p s m args meth c D A cc nL own Ts ret) (h8 : zSt8 A s) (hX : va_X b9 Ln xs s s.heap) (hbl : b9 < s.heap.size) (hbA : ¬ A b9) (hM : zsMet D l y ws rm As G b9 Ln xs Post PX) (hT : GoodIn Ts (va_wsS own index y ws)) (hw : ws = Cond.code y bytes maxL retc :: ws') (n : Nat)
    (hd : y.cls ≠ "java/lang/invoke/MethodHandle" ∧ y.cls ≠ "java/lang/invoke/VarHandle" ∧ (parseMethodDescriptor y.desc).map (fun d => d.parameters.length) = some n) (hR : rm.frames + 1 ≤ R.frames ∧ 8 + (maxL + 11) + rm.locals ≤ R.locals)
    (hn : As.length = n) (hdg : decode cc pc = .ok (.invokestatic index, 3)) (hst : st0 = As.reverse ++ st) (hcat : (st.map fun v => v.category).sum ≤ 8) (hlen : L.length = nL) (hroom : cells + rm.cells ≤ R.cells ∧ slots + rm.slots ≤ R.slots)
    (kx : ∀ E : String, PX E → zVX p l e R s m args below meth c D A (cells + rm.cells) (slots + rm.slots) Q G pc L st E)
    (kk : ∀ (v : Option Value) (G' : zG), Post v G' → zV p l e R s m args below meth c D A (cells + rm.cells) (slots + rm.slots) Q G' (pc + 3) L (v.toList ++ st)) : zV p l e R s m args below meth c D A cells slots Q G pc L st0 := by
  subst hst
  refine zzx_run (av := As.toArray) C.2.2.1 (fun H locs ls hP hL hS hG => ?_) kx kk
  refine vx_runS (As := As) (rest := st) C.1 (hM H.size) (va_cwS (maxL := maxL) (bytes := bytes) (ret := retc) n (fun w h => C.ts h) hT hw rfl rfl hd hR) ⟨zsx_blind, fun U hU hW => ⟨rfl, zxPre_at C.2.1 hP h8 hS hG C.2.2.1 hU hW, ?_, Nat.lt_of_lt_of_le hbl hS.1, ?_⟩⟩ rfl hn (hL.1.trans hlen) rfl (lv_room hcat) hdg hroom
  · rw [hU]
    exact (hX.kept (hS.2.1 b9 hbl hbA)).moved hW.alike
  · cases hg : G b9 with
    | none => rfl
    | some x => exact absurd (hG b9 x hg) hbA
theorem zz_sld (C : zC p s m args meth c D A cc nL own Ts ret) (hX : va_X b9 Ln xs s s.heap) (hbl : b9 < s.heap.size) (hbA : ¬ A b9) {i v : Int32} (hin : vp_in i Ln) (hv : xs i.toNatClampNeg = v) (hdg : decode cc pc = .ok (.iaload, 1))
    (kk : zV p l e R s m args below meth c D A cells slots Q G (pc + 1) L (.int v :: st)) : zV p l e R s m args below meth c D A cells slots Q G pc L (.int i :: .ref b9 :: st) := by
  subst hv
  exact fun H locs ls hP hS hG hL => va_sld C.1.1 C.1.2.1 hX hbl hbA hS hin hdg (kk H locs ls hP hS hG hL)
theorem zz_slen (C : zC p s m args meth c D A cc nL own Ts ret) (hX : va_X b9 Ln xs s s.heap) (hbl : b9 < s.heap.size) (hbA : ¬ A b9) (hdg : decode cc pc = .ok (.arraylength, 1))
    (kk : zV p l e R s m args below meth c D A cells slots Q G (pc + 1) L (.int (nI Ln) :: st)) : zV p l e R s m args below meth c D A cells slots Q G pc L (.ref b9 :: st) :=
  fun H locs ls hP hS hG hL => va_slen C.1.1 C.1.2.1 hX hbl hbA hS hdg (kk H locs ls hP hS hG hL)
end ZSR
theorem zAndMax (v : Int32) : ∃ w, w < 2 ^ 31 ∧ v &&& 2147483647 = nI w := by
  refine ⟨(v &&& 2147483647).toBitVec.toNat, ?_, ?_⟩
  · have h1 : (v &&& 2147483647).toBitVec.toNat = v.toBitVec.toNat &&& 2147483647 := by simp
    rw [h1]
    have : v.toBitVec.toNat &&& 2147483647 ≤ 2147483647 := Nat.and_le_right
    omega
  · apply Int32.toBitVec_inj.mp
    show (v &&& 2147483647).toBitVec = (Int32.ofNat (v &&& 2147483647).toBitVec.toNat).toBitVec
    simp
set_option maxHeartbeats 4000000 in
set_option maxRecDepth 100000 in
theorem c_L_part (l : Launch) (D : va_G) {G : zG} {b9 Ln k9 n9 : Nat} {xs : Nat → Int32} (hL : Ln < 2 ^ 31) (hk : k9 < 2 ^ 31) (hn0 : 0 < n9) (hn : n9 < 2 ^ 31) : ∃ j, j < n9 ∧ zsMet D l yL_part wsL_part ({ frames := 1, cells := 0, slots := 0, locals := 30 } : Room) [.ref b9, .int (nI k9), .int (nI n9)] G b9 Ln xs (fun v G9 => v = some (.int (nI j)) ∧ G9 = G) (fun _ => False) := by
  by_cases hlt : k9 < Ln
  · obtain ⟨w, hw1, hw2⟩ := zAndMax (xs (nI k9).toNatClampNeg)
    refine ⟨w % n9, Nat.mod_lt _ hn0, ?_⟩
    refine zsMet_of (cc := cL_part) (maxL := 4) (ret := (some .int)) (by decide) rfl (Nat.le_of_ble_eq_true rfl) ?_
    intro p e s m args below meth c C hnx h8 hX hbl hbA
    refine zz_iload_n (pc := 0) C dL_part_0 rfl ?_
    refine zz_aload_n (pc := 1) C dL_part_1 rfl ?_
    refine zz_slen (pc := 2) C hX hbl hbA dL_part_2 ?_
    refine zz_icmp_ge (pc := 3) C (tgt := 12) dL_part_3 (by decide) (fun hc3 => ?_) (fun hc3 => ?_)
    · exact absurd ((nI_leI (a := Ln) (b := k9) hL hk).mp hc3) (by omega)
    · refine zz_aload_n (pc := 6) C dL_part_6 rfl ?_
      refine zz_iload_n (pc := 7) C dL_part_7 rfl ?_
      refine zz_sld (pc := 8) C hX hbl hbA (vp_in_nI hlt hL) rfl dL_part_8 ?_
      refine zz_goto (pc := 9) C (tgt := 24) dL_part_9 (by decide) ?_
      refine zz_istore_n (pc := 24) C dL_part_24 (Nat.le_of_ble_eq_true rfl) ?_
      refine zV.less (L' := [some (.ref (b9)), some (.int (nI k9)), some (.int (nI n9)), some (.int (xs (nI k9).toNatClampNeg))]) ⟨rfl, rfl, rfl, rfl, trivial⟩ ?_
      refine zz_iload_n (pc := 25) C dL_part_25 rfl ?_
      refine zz_ldc (pc := 26) C (v := 2147483647) (by decide +kernel) dL_part_26 ?_
      refine zz_iand (pc := 28) C dL_part_28 ?_
      refine zz_iload_n (pc := 29) C dL_part_29 rfl ?_
      refine zz_irem (pc := 30) C (a := w) (d := n9) dL_part_30 hw2 rfl hw1 hn0 hn ?_
      exact zzx_ret (zz_ireturn (pc := 31) C dL_part_31 rfl (Nat.le_of_ble_eq_true rfl) (Nat.le_of_ble_eq_true rfl) ⟨rfl, rfl⟩)
  · obtain ⟨w, hw1, hw2⟩ := zAndMax (163 * nI k9 + 53 * nI k9 * nI k9)
    refine ⟨w % n9, Nat.mod_lt _ hn0, ?_⟩
    refine zsMet_of (cc := cL_part) (maxL := 4) (ret := (some .int)) (by decide) rfl (Nat.le_of_ble_eq_true rfl) ?_
    intro p e s m args below meth c C hnx h8 hX hbl hbA
    refine zz_iload_n (pc := 0) C dL_part_0 rfl ?_
    refine zz_aload_n (pc := 1) C dL_part_1 rfl ?_
    refine zz_slen (pc := 2) C hX hbl hbA dL_part_2 ?_
    refine zz_icmp_ge (pc := 3) C (tgt := 12) dL_part_3 (by decide) (fun hc3 => ?_) (fun hc3 => ?_)
    · refine zz_sipush (pc := 12) C (v := 163) (by decide) dL_part_12 ?_
      refine zz_iload_n (pc := 15) C dL_part_15 rfl ?_
      refine zz_imul (pc := 16) C dL_part_16 ?_
      refine zz_bipush (pc := 17) C (v := 53) (by decide) dL_part_17 ?_
      refine zz_iload_n (pc := 19) C dL_part_19 rfl ?_
      refine zz_imul (pc := 20) C dL_part_20 ?_
      refine zz_iload_n (pc := 21) C dL_part_21 rfl ?_
      refine zz_imul (pc := 22) C dL_part_22 ?_
      refine zz_iadd (pc := 23) C dL_part_23 ?_
      refine zz_istore_n (pc := 24) C dL_part_24 (Nat.le_of_ble_eq_true rfl) ?_
      refine zV.less (L' := [some (.ref (b9)), some (.int (nI k9)), some (.int (nI n9)), some (.int (163 * nI k9 + 53 * nI k9 * nI k9))]) ⟨rfl, rfl, rfl, rfl, trivial⟩ ?_
      refine zz_iload_n (pc := 25) C dL_part_25 rfl ?_
      refine zz_ldc (pc := 26) C (v := 2147483647) (by decide +kernel) dL_part_26 ?_
      refine zz_iand (pc := 28) C dL_part_28 ?_
      refine zz_iload_n (pc := 29) C dL_part_29 rfl ?_
      refine zz_irem (pc := 30) C (a := w) (d := n9) dL_part_30 hw2 rfl hw1 hn0 hn ?_
      exact zzx_ret (zz_ireturn (pc := 31) C dL_part_31 rfl (Nat.le_of_ble_eq_true rfl) (Nat.le_of_ble_eq_true rfl) ⟨rfl, rfl⟩)
    · exact absurd ((nI_leI (a := Ln) (b := k9) hL hk).mpr (by omega)) hc3
set_option maxHeartbeats 4000000 in
set_option maxRecDepth 100000 in
theorem t_L_isDone (l : Launch) (D : va_G) {B G : zG} {x tb ev : Nat} {A : Nat → Nat} {σ : zS} {m0 : Nat} (hC : zCl B x tb ev A σ [] 0 m0 G) {p : Program} {e : Env} {s : State} {m : MethodId} {args : Array Value} {below : List Frame} {meth : Method} {c : Code} {Q : State → Prop} (C : zC p s m args meth c D (zA G s.heap.size) cL_isDone 10 RL wsL_isDone (some .boolean)) {b9 Ln t9 w9 v9 a9 d9 : Nat} {xs : Nat → Int32} {rm : Room} (h8 : zSt8 (zA G s.heap.size) s) (hX : va_X b9 Ln xs s s.heap) (hbl : b9 < s.heap.size) (hbA : ¬ zA G s.heap.size b9) (hW : zWf σ) (hv : v9 < 2 ^ 31) (P0 : zsMet D l yL_part wsL_part ({ frames := 1, cells := 0, slots := 0, locals := 30 } : Room) [.ref b9, .int (nI t9), .int (nI 30)] G b9 Ln xs (fun v G9 => v = some (.int (nI w9)) ∧ G9 = G) (fun _ => False)) (P1 : zsMet D l yL_part wsL_part ({ frames := 1, cells := 0, slots := 0, locals := 30 } : Room) [.ref b9, .int (nI (t9 + 1)), .int (nI 4000)] G b9 Ln xs (fun v G9 => v = some (.int (nI v9)) ∧ G9 = G) (fun _ => False)) (P2 : zsMet D l yL_part wsL_part ({ frames := 1, cells := 0, slots := 0, locals := 30 } : Room) [.ref b9, .int (nI (t9 + 2)), .int (nI 5000)] G b9 Ln xs (fun v G9 => v = some (.int (nI a9)) ∧ G9 = G) (fun _ => False)) (P3 : zsMet D l yL_part wsL_part ({ frames := 1, cells := 0, slots := 0, locals := 30 } : Room) [.ref b9, .int (nI (t9 + 3)), .int (nI 6000)] G b9 Ln xs (fun v G9 => v = some (.int (nI d9)) ∧ G9 = G) (fun _ => False)) (K48 : zV p l e ({ frames := 13, cells := rm.cells, slots := rm.slots, locals := 420 } : Room) s m args below meth c D (zA G s.heap.size) 0 0 Q G 48 [some (.ref x), some (.ref b9), some (.int (nI t9)), some (.int (nI w9)), some (.int (nI (zPid σ 40 (v9 % 40 + 1)))), some (.int (nI a9)), some (.int (nI d9)), none, none, none] []) : zV p l e ({ frames := 13, cells := rm.cells, slots := rm.slots, locals := 420 } : Room) s m args below meth c D (zA G s.heap.size) 0 0 Q G 0 [some (.ref x), some (.ref b9), some (.int (nI t9)), none, none, none, none, none, none, none] [] := by
  refine zz_aload_n (pc := 0) C dL_isDone_0 rfl ?_
  refine zz_iload_n (pc := 1) C dL_isDone_1 rfl ?_
  refine zz_bipush (pc := 2) C (v := 30) (by decide) dL_isDone_2 ?_
  refine zs_callS (pc := 4) C h8 hX hbl hbA P0 gL_isDone_L_part rfl 3 (by decide +kernel) ⟨Nat.le_of_ble_eq_true rfl, Nat.le_of_ble_eq_true rfl⟩ rfl dL_isDone_4 rfl (Nat.le_of_ble_eq_true rfl) rfl ⟨Nat.zero_le _, Nat.zero_le _⟩ (fun E hE => hE.elim) ?_
  rintro v G9 ⟨rfl, rfl⟩
  refine zz_istore_n (pc := 7) C dL_isDone_7 (Nat.le_of_ble_eq_true rfl) ?_
  refine zV.less (L' := [some (.ref (x)), some (.ref (b9)), some (.int (nI t9)), some (.int (nI w9)), none, none, none, none, none, none]) ⟨rfl, rfl, rfl, rfl, trivial⟩ ?_
  refine zz_aload_n (pc := 8) C dL_isDone_8 rfl ?_
  refine zz_aload_n (pc := 9) C dL_isDone_9 rfl ?_
  refine zz_iload_n (pc := 10) C dL_isDone_10 rfl ?_
  refine zz_iconst (pc := 11) C (v := 1) (by decide) dL_isDone_11 ?_
  refine zz_iadd (pc := 12) C dL_isDone_12 ?_
  refine zV.top (z1a t9) ?_
  refine zz_sipush (pc := 13) C (v := 4000) (by decide) dL_isDone_13 ?_
  refine zs_callS (pc := 16) C h8 hX hbl hbA P1 gL_isDone_L_part rfl 3 (by decide +kernel) ⟨Nat.le_of_ble_eq_true rfl, Nat.le_of_ble_eq_true rfl⟩ rfl dL_isDone_16 rfl (Nat.le_of_ble_eq_true rfl) rfl ⟨Nat.zero_le _, Nat.zero_le _⟩ (fun E hE => hE.elim) ?_
  rintro v G9 ⟨rfl, rfl⟩
  refine zz_callS (pc := 19) C (c_L_pid l D hC hW (v9 := v9) hv) gL_isDone_L_pid rfl 2 (by decide +kernel) ⟨Nat.le_of_ble_eq_true rfl, Nat.le_of_ble_eq_true rfl⟩ rfl dL_isDone_19 rfl (Nat.le_of_ble_eq_true rfl) rfl ⟨Nat.zero_le _, Nat.zero_le _⟩ ?_
  rintro v G9 ⟨rfl, rfl⟩
  refine zz_istore (pc := 22) C dL_isDone_22 (Nat.le_of_ble_eq_true rfl) ?_
  refine zV.less (L' := [some (.ref (x)), some (.ref (b9)), some (.int (nI t9)), some (.int (nI w9)), some (.int (nI (zPid σ 40 (v9 % 40 + 1)))), none, none, none, none, none]) ⟨rfl, rfl, rfl, rfl, rfl, trivial⟩ ?_
  refine zz_aload_n (pc := 24) C dL_isDone_24 rfl ?_
  refine zz_iload_n (pc := 25) C dL_isDone_25 rfl ?_
  refine zz_iconst (pc := 26) C (v := 2) (by decide) dL_isDone_26 ?_
  refine zz_iadd (pc := 27) C dL_isDone_27 ?_
  refine zV.top (nI_add t9 2) ?_
  refine zz_sipush (pc := 28) C (v := 5000) (by decide) dL_isDone_28 ?_
  refine zs_callS (pc := 31) C h8 hX hbl hbA P2 gL_isDone_L_part rfl 3 (by decide +kernel) ⟨Nat.le_of_ble_eq_true rfl, Nat.le_of_ble_eq_true rfl⟩ rfl dL_isDone_31 rfl (Nat.le_of_ble_eq_true rfl) rfl ⟨Nat.zero_le _, Nat.zero_le _⟩ (fun E hE => hE.elim) ?_
  rintro v G9 ⟨rfl, rfl⟩
  refine zz_istore (pc := 34) C dL_isDone_34 (Nat.le_of_ble_eq_true rfl) ?_
  refine zV.less (L' := [some (.ref (x)), some (.ref (b9)), some (.int (nI t9)), some (.int (nI w9)), some (.int (nI (zPid σ 40 (v9 % 40 + 1)))), some (.int (nI a9)), none, none, none, none]) ⟨rfl, rfl, rfl, rfl, rfl, rfl, trivial⟩ ?_
  refine zz_aload_n (pc := 36) C dL_isDone_36 rfl ?_
  refine zz_iload_n (pc := 37) C dL_isDone_37 rfl ?_
  refine zz_iconst (pc := 38) C (v := 3) (by decide) dL_isDone_38 ?_
  refine zz_iadd (pc := 39) C dL_isDone_39 ?_
  refine zV.top (nI_add t9 3) ?_
  refine zz_sipush (pc := 40) C (v := 6000) (by decide) dL_isDone_40 ?_
  refine zs_callS (pc := 43) C h8 hX hbl hbA P3 gL_isDone_L_part rfl 3 (by decide +kernel) ⟨Nat.le_of_ble_eq_true rfl, Nat.le_of_ble_eq_true rfl⟩ rfl dL_isDone_43 rfl (Nat.le_of_ble_eq_true rfl) rfl ⟨Nat.zero_le _, Nat.zero_le _⟩ (fun E hE => hE.elim) ?_
  rintro v G9 ⟨rfl, rfl⟩
  refine zz_istore (pc := 46) C dL_isDone_46 (Nat.le_of_ble_eq_true rfl) ?_
  refine zV.less (L' := [some (.ref (x)), some (.ref (b9)), some (.int (nI t9)), some (.int (nI w9)), some (.int (nI (zPid σ 40 (v9 % 40 + 1)))), some (.int (nI a9)), some (.int (nI d9)), none, none, none]) ⟨rfl, rfl, rfl, rfl, rfl, rfl, rfl, trivial⟩ ?_
  exact K48
