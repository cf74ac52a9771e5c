/-! new cells: the queue, the class, a child -/
section ZXN
variable {l : Launch} {D : va_G}
theorem zxMet_ofN {y : MethodName} {ws ws' : List Cond} {rm : Room} {cc : ByteArray} {maxL : Nat} {ret : Option FieldType} {av : List Value} {G : zG} {Post : Option Value → zG → Prop} {PX : String → Prop} (hy : plainName y.cls = true) (hw : ws = Cond.code y cc maxL ret :: ws') (hlen : (lg_sl av).length ≤ maxL)
    (body : ∀ (p : Program) (e : Env) (s : State) (m : MethodId) (args : Array Value) (below : List Frame) (meth : Method) (c : Code), zC p s m args meth c D (zA G s.heap.size) cc maxL y.cls ws ret → meth.name = y.name → zSt8 (zA G s.heap.size) s →
      zV p l e rm s m args below meth c D (zA G s.heap.size) 0 0 (zxZ below D G Post PX args s rm) G 0 (zin av ++ List.replicate (maxL - (zin av).length) none) []) : zxMet D l y ws rm av G Post PX := by
  intro sz
  refine vx_ofW (cc := cc) (maxL := maxL) (ret := ret) hy hw ?_
  intro p e s m args below meth c s₁ B hml hnx hv
  obtain ⟨rfl, ⟨rfl, hK, hP⟩, h8⟩ := hv
  have hC : zC p s m av.toArray meth c D (zA G s.heap.size) cc maxL y.cls ws ret := ⟨⟨B.exec, B.bytes, hml, findClass_of_methodNamed B.named, atoms_spec (ws := ws) B.pre⟩, hK, fun q h => Or.inr h, B.returns, B.notSynchronized⟩
  have h0 := body p e s m av.toArray below meth c hC (name_of_methodNamed B.named B.method).1 h8 s.heap [] _ hP va_S.rf (fun a x hx => Or.inl ⟨x, hx⟩) (zL_entry av hlen)
  have e1 : entryFrame m av.toArray maxL = F0 m 0 (lg_sl av ++ List.replicate (maxL - (lg_sl av).length) Slot.unset).toArray [] := lg_entry_eq m av maxL
  rw [e1]
  exact h0
end ZXN
section ZNQ
variable {p : Program} {l : Launch} {e : Env} {R : Room} {s : State} {m : MethodId} {args : Array Value} {below : List Frame} {meth : Method} {c : Code} {D : va_G} {A : Nat → Prop} {cells slots : Nat} {Q : State → Prop} {G : zG} {pc : Nat} {L : List (Option Value)} {st : List Value}
variable {cc : ByteArray} {nL : Nat} {own : String} {Ts : List Cond} {ret : Option FieldType}
theorem zz_newq2 (C : zC p s m args meth c D A cc nL own Ts ret) (tg : Nat) {Cn : String} {index : Nat} {n : Int32} {N : Nat} (hclink : Cond.classLink own index Cn ∈ Ts) (hover : va_AO Cn s) (hn : ¬ n < 0) (hN : n.toNatClampNeg = N) (hbytes : N * 4 ≤ 536870912) (hcells : cells + 1 ≤ R.cells) (hslots : slots + N ≤ R.slots) (hdg : decode cc pc = .ok (.anewarray index, 3))
    (kk : ∀ a : Nat, G a = none → s.heap.size ≤ a → zV p l e R s m args below meth c D A (cells + 1) (slots + N) Q (zU G a (tg, .inl (.object Cn, N, .inr (.inr (.inr (.inr (fun _ => none))))))) (pc + 3) L (.ref a :: st)) : zV p l e R s m args below meth c D A cells slots Q G (pc) L (.int n :: st) := by
  intro H locs ls hP hS hG hL9
  subst hN
  refine W.anew C.1.1 C.1.2.1 C.1.2.2.2.1 (C.ts hclink) (va_AO.use hover) rfl hdg rfl hn hbytes hcells hslots fun cA kA comp f1 f2 f3 f4 => ?_
  generalize hH1 : H.push ({ cls := cA, slots := Array.replicate n.toNatClampNeg .null, vm := .none } : Cell) = H1
  have z1 : H1.size = H.size + 1 := by rw [← hH1, Array.size_push]
  have e1 : H1[H.size]? = some (arrV cA n.toNatClampNeg (fun _ => .null)) := by rw [← hH1, Array.getElem?_push_size, ← arrV_new]
  have o1 : ∀ q : Nat, q < H.size → H1[q]? = H[q]? := fun q hq => by rw [← hH1, Array.getElem?_push, if_neg (Nat.ne_of_lt hq)]
  have hAr : ArrOfT s cA (.object Cn) := fun N z => ⟨(fun k h => by cases h), kA, f2, comp, f3⟩
  exact kk H.size (hP.free (Nat.le_refl _)) hS.1 H1 locs ls (hP.new rfl ⟨cA, by rw [vp_cell_q]; exact e1, hAr, kA, comp, f2, f3, f4, f1⟩ o1) (zS_new hS z1 o1) (zG_new hG (C.2.2.1 _ hS.1)) hL9
end ZNQ
theorem zNe {G : zG} {a b : Nat} {x : Nat × zE} (ha : G a = some x) (hb : G b = none) : a ≠ b := fun z => by rw [z, hb] at ha; cases ha
theorem zDef1 : ∀ j, j < 20 → defaultValue (tyX1 j) = vp_V (zPr .null (fun _ => 0)) j := fun j hj => by
  match j, hj with
  | 0, _ => rfl
  | 1, _ => rfl
  | 2, _ => rfl
  | 3, _ => rfl
  | 4, _ => rfl
  | 5, _ => rfl
  | 6, _ => rfl
  | 7, _ => rfl
  | 8, _ => rfl
  | 9, _ => rfl
  | 10, _ => rfl
  | 11, _ => rfl
  | 12, _ => rfl
  | 13, _ => rfl
  | 14, _ => rfl
  | 15, _ => rfl
  | 16, _ => rfl
  | 17, _ => rfl
  | 18, _ => rfl
  | 19, _ => rfl
  | n + 20, h => exact absurd h (by omega)
theorem zDef0 : ∀ j, j < 6 → defaultValue (tyX0 j) = vp_V [.null, .null, .int 0, .int 0, .int 0, .int 0] j := fun j hj => by
  match j, hj with
  | 0, _ => rfl
  | 1, _ => rfl
  | 2, _ => rfl
  | 3, _ => rfl
  | 4, _ => rfl
  | 5, _ => rfl
  | n + 6, h => exact absurd h (by omega)
theorem fl_X0_init_11 : Cond.fieldLink RX0 11 "Signalpost$EventQueue" "kinds" "[I" ∈ wsX0_init := by decide +kernel
theorem fl_X0_init_15 : Cond.fieldLink RX0 15 "Signalpost$EventQueue" "pids" "[I" ∈ wsX0_init := by decide +kernel
theorem in_X0_init_X0 : ∀ w ∈ u_ws RX0 TX0 6, w ∈ wsX0_init := by decide +kernel
set_option maxHeartbeats 4000000 in
set_option maxRecDepth 100000 in
theorem c_X0_init (l : Launch) (D : va_G) {G : zG} {a t : Nat} (hx : G a = some (t, .inr (0, [.null, .null, .int 0, .int 0, .int 0, .int 0]))) : zMet D l yX0_init wsX0_init ({ frames := 1, cells := 2, slots := 128, locals := 20 } : Room) [.ref a] G (fun v G9 => v = none ∧ ∃ ka pa : Nat, G9 a = some (t, .inr (0, zQo ka pa 0 0 0 0)) ∧ G9 ka = some (t, .inl (.int, 64, .inl (fun _ => 0))) ∧ G9 pa = some (t, .inl (.int, 64, .inl (fun _ => 0))) ∧ ka ≠ pa ∧ ∀ (z : Nat) (y : Nat × zE), G z = some y → z ≠ a → G9 z = some y) := by
  refine zMet_of (cc := cX0_init) (maxL := 1) (ret := none) (by decide) rfl (Nat.le_of_ble_eq_true rfl) ?_
  intro p e s m args below meth c C hmn
  refine zz_aload_n (pc := 0) C dX0_init_0 rfl ?_
  refine zz_objInit (pc := 1) C (by decide +kernel) (by decide +kernel) (by decide +kernel) rfl dX0_init_1 (Nat.le_of_ble_eq_true rfl) (Nat.le_of_ble_eq_true rfl) ?_
  refine zz_aload_n (pc := 4) C dX0_init_4 rfl ?_
  refine zz_bipush (pc := 5) C (v := 64) (by decide) dX0_init_5 ?_
  refine zz_newarr (pc := 7) C t (ty := .int) (N := 64) (x0 := (64, .inl (fun _ => 0))) (by decide +kernel) rfl (fun _ h => h) (fun cA => rfl) (by decide) (by decide) (by decide) (Nat.le_of_ble_eq_true rfl) (Nat.le_of_ble_eq_true rfl) dX0_init_7 (fun ka hka _ => ?_)
  have n1 : a ≠ ka := zNe hx hka
  refine zz_put (pc := 9) C in_X0_init_X0 tyX0 tyX0_ok nmX0 (ci := 0) (t := t) rfl 0 (by decide) fl_X0_init_11 rfl rfl dX0_init_9 ((zU_ne n1).trans hx) rfl rfl (Nat.le_of_ble_eq_true rfl) ?_
  refine zz_aload_n (pc := 12) C dX0_init_12 rfl ?_
  refine zz_bipush (pc := 13) C (v := 64) (by decide) dX0_init_13 ?_
  refine zz_newarr (pc := 15) C t (ty := .int) (N := 64) (x0 := (64, .inl (fun _ => 0))) (by decide +kernel) rfl (fun _ h => h) (fun cA => rfl) (by decide) (by decide) (by decide) (Nat.le_of_ble_eq_true rfl) (Nat.le_of_ble_eq_true rfl) dX0_init_15 (fun pa hpa _ => ?_)
  have n2 : a ≠ pa := zNe zU_self hpa
  have n3 : ka ≠ pa := fun z => by rw [← z, zU_ne (fun y => n1 y.symm), zU_self] at hpa; cases hpa
  refine zz_put (pc := 17) C in_X0_init_X0 tyX0 tyX0_ok nmX0 (ci := 0) (t := t) rfl 1 (by decide) fl_X0_init_15 rfl rfl dX0_init_17 ((zU_ne n2).trans zU_self) rfl rfl (Nat.le_of_ble_eq_true rfl) ?_
  refine zz_return (pc := 20) C dX0_init_20 (Nat.le_of_ble_eq_true rfl) (Nat.le_of_ble_eq_true rfl) ⟨rfl, ka, pa, zU_self, by rw [zU_ne (fun z => n1 z.symm), zU_ne n3, zU_ne (fun z => n1 z.symm), zU_self], by rw [zU_ne (fun z => n2 z.symm), zU_self], n3, fun z y hz hne => ?_⟩
  have z1 : z ≠ ka := zNe hz hka
  have z2 : z ≠ pa := zNe (show zU (zU G ka _) a _ z = _ from by rw [zU_ne hne, zU_ne z1]; exact hz) hpa
  rw [zU_ne hne, zU_ne z2, zU_ne hne, zU_ne z1]
  exact hz
theorem fl_X2_init_11 : Cond.fieldLink RX2 11 "Signalpost" "table" "[LSignalpost$Proc;" ∈ wsX2_init := by decide +kernel
theorem fl_X2_init_18 : Cond.fieldLink RX2 18 "Signalpost" "events" "LSignalpost$EventQueue;" ∈ wsX2_init := by decide +kernel
theorem fl_X2_init_22 : Cond.fieldLink RX2 22 "Signalpost" "terminalHolder" "I" ∈ wsX2_init := by decide +kernel
theorem fl_X2_init_26 : Cond.fieldLink RX2 26 "Signalpost" "foregroundGroup" "I" ∈ wsX2_init := by decide +kernel
theorem in_X2_init_X2 : ∀ w ∈ u_ws RX2 TX2 4, w ∈ wsX2_init := by decide +kernel
theorem inn_X2_init_X0 : ∀ w ∈ u_ws RX0 TX0 6, w ∈ wsX2_init := by decide +kernel
theorem inn_X2_init_X1 : ∀ w ∈ u_ws RX1 TX1 20, w ∈ wsX2_init := by decide +kernel
theorem zPF_init : zPF zInit 1 (zNewF 1) := by
  refine ⟨rfl, rfl, rfl, rfl, rfl, rfl, rfl, fun z => absurd rfl z, rfl, fun z => absurd rfl z, fun s hs => ?_, rfl, rfl, rfl, rfl, rfl, rfl, rfl⟩
  have z0 : ¬ zbt 0 s := fun z => by rw [zbt_bit (by omega), zbit_0] at z; cases z
  exact ⟨⟨fun z => absurd z z0, fun z => absurd z (show ¬ (0 : Int32) = 2 by decide)⟩, ⟨fun z => absurd z z0, fun z => absurd z (show ¬ (0 : Int32) = 1 by decide)⟩⟩
theorem zInit_0 {k : Nat} : zInit 0 k ≠ 0 ↔ k = 1 := by
  show (if k = 1 then (1 : Int32) else 0) ≠ 0 ↔ k = 1
  by_cases h : k = 1
  · simp [h]
  · simp [h]
theorem zCl_init {B G : zG} {x tb ev ka pa p1 : Nat} (hB : zFr 1 B G) (hx : G x = some (1, .inr (2, [.ref tb, .ref ev, .int (-1), .int (-1)]))) (ht : G tb = some (1, .inl (.object "Signalpost$Proc", 41, .inr (.inr (.inr (.inr (va_up (fun _ => none) 1 (some p1)))))))) (he : G ev = some (1, .inr (0, zQo ka pa 0 0 0 0))) (hk : G ka = some (1, .inl (.int, 64, .inl (fun _ => 0)))) (hp : G pa = some (1, .inl (.int, 64, .inl (fun _ => 0)))) (hne : ka ≠ pa) (h1 : G p1 = some (1, .inr (1, zPr .null (zNewF 1)))) : zCl B x tb ev (fun _ => p1) zInit [] 0 0 G := by
  have eT : zTA zInit (fun _ => p1) = va_up (fun _ => none) 1 (some p1) := by
    funext k
    unfold zTA va_up
    by_cases hk1 : k = 1
    · rw [if_neg (zInit_0.mpr hk1), if_pos hk1]
    · rw [if_pos (Classical.not_not.mp (fun z => hk1 (zInit_0.mp z))), if_neg hk1]
  refine ⟨by decide, ka, pa, (fun _ => zNewF 1), (fun _ => 0), (fun _ => 0), 0, 0, hB, hx, by rw [eT]; exact ht, ⟨he, hk, hp, hne, by show 0 + 0 ≤ zK 0; decide, by decide, by decide, fun i e hi => by cases hi⟩, fun k hk z => zTA_n z, fun k hk z => ?_⟩
  have hk1 := zInit_0.mp z
  subst hk1
  exact ⟨p1, zTA_y z, by rw [h1, zPar_1], zPF_init⟩
set_option maxHeartbeats 4000000 in
set_option maxRecDepth 100000 in
theorem c_X2_init (l : Launch) (D : va_G) {B G : zG} {x : Nat} (hB : zFr 1 B G) (hx : G x = some (1, .inr (2, [.null, .null, .int 0, .int 0]))) : zxMet D l yX2_init wsX2_init ({ frames := 2, cells := 5, slots := 300, locals := 41 } : Room) [.ref x] G (fun v G9 => v = none ∧ ∃ (tb ev : Nat) (A : Nat → Nat), zCl B x tb ev A zInit [] 0 0 G9) (fun _ => False) := by
  refine zxMet_ofN (cc := cX2_init) (maxL := 1) (ret := none) (by decide) rfl (Nat.le_of_ble_eq_true rfl) ?_
  intro p e s m args below meth c C hmn h8
  refine zz_aload_n (pc := 0) C dX2_init_0 rfl ?_
  refine zz_objInit (pc := 1) C (by decide +kernel) (by decide +kernel) (by decide +kernel) rfl dX2_init_1 (Nat.le_of_ble_eq_true rfl) (Nat.le_of_ble_eq_true rfl) ?_
  refine zz_aload_n (pc := 4) C dX2_init_4 rfl ?_
  refine zz_bipush (pc := 5) C (v := 41) (by decide) dX2_init_5 ?_
  refine zz_newq2 (pc := 7) C 1 (Cn := "Signalpost$Proc") (N := 41) (by decide +kernel) h8.2.2.2.2.2.2 (by decide) (by decide) (by decide) (Nat.le_of_ble_eq_true rfl) (Nat.le_of_ble_eq_true rfl) dX2_init_7 (fun tb htb _ => ?_)
  have nxt : x ≠ tb := zNe hx htb
  refine zz_putF (pc := 10) C in_X2_init_X2 tyX2 tyX2_ok nmX2 (ci := 2) (t := 1) rfl 0 (by decide) fl_X2_init_11 rfl rfl hmn rfl dX2_init_10 ((zU_ne nxt).trans hx) rfl rfl (Nat.le_of_ble_eq_true rfl) ?_
  refine zz_aload_n (pc := 13) C dX2_init_13 rfl ?_
  refine zz_new (pc := 14) C 1 inn_X2_init_X0 tyX0 tyX0_ok (by decide +kernel) (by decide +kernel) (by decide +kernel) (ci := 0) rfl zDef0 (Nat.le_of_ble_eq_true rfl) (Nat.le_of_ble_eq_true rfl) dX2_init_14 (fun ev hev _ => ?_)
  refine zz_dup (pc := 17) C dX2_init_17 rfl ?_
  refine zz_callIN (pc := 18) C (c_X0_init l D (a := ev) (t := 1) zU_self) gX2_init_X0_init_n17 rfl 0 (by decide +kernel) h8.2.2.2.2.2.1 (by decide +kernel) rfl (by decide +kernel) ⟨Nat.le_of_ble_eq_true rfl, Nat.le_of_ble_eq_true rfl⟩ rfl dX2_init_18 rfl (Nat.le_of_ble_eq_true rfl) rfl ⟨Nat.le_of_ble_eq_true rfl, Nat.le_of_ble_eq_true rfl⟩ ?_
  rintro v G2 ⟨rfl, ka, pa, e1, e2, e3, e4, e5⟩
  have nxt : x ≠ tb := zNe hx htb
  have g1 : G2 x = some (1, .inr (2, [.ref tb, .null, .int 0, .int 0])) := e5 x _ (by rw [zU_ne (zNe zU_self hev), zU_self]; rfl) (zNe zU_self hev)
  have g2 : G2 tb = some (1, .inl (.object "Signalpost$Proc", 41, .inr (.inr (.inr (.inr (fun _ => none)))))) := e5 tb _ (by rw [zU_ne (zNe (x := (1, .inl (.object "Signalpost$Proc", 41, .inr (.inr (.inr (.inr (fun _ => none))))))) (by rw [zU_ne (fun z => nxt z.symm), zU_self]) hev), zU_ne (fun z => nxt z.symm), zU_self]) (zNe (x := (1, .inl (.object "Signalpost$Proc", 41, .inr (.inr (.inr (.inr (fun _ => none))))))) (by rw [zU_ne (fun z => nxt z.symm), zU_self]) hev)
  have g3 : zFr 1 B G2 := by
    intro q k e hq hk
    have h9 := ((((hB.new htb).upd (e0 := .inr (2, [.null, .null, .int 0, .int 0])) (by rw [zU_ne nxt]; exact hx)).new (e := .inr (0, [.null, .null, .int 0, .int 0, .int 0, .int 0])) hev)) q k e hq hk
    exact e5 q _ h9 (fun z => by rw [z, zU_self] at h9; cases h9; exact hk rfl)
  refine zz_putF (pc := 21) C in_X2_init_X2 tyX2 tyX2_ok nmX2 (ci := 2) (t := 1) rfl 1 (by decide) fl_X2_init_18 rfl rfl hmn rfl dX2_init_21 g1 rfl rfl (Nat.le_of_ble_eq_true rfl) ?_
  refine zz_aload_n (pc := 24) C dX2_init_24 rfl ?_
  refine zz_iconst (pc := 25) C (v := -1) (by decide) dX2_init_25 ?_
  refine zz_put (pc := 26) C in_X2_init_X2 tyX2 tyX2_ok nmX2 (ci := 2) (t := 1) rfl 2 (by decide) fl_X2_init_22 rfl rfl dX2_init_26 zU_self rfl rfl (Nat.le_of_ble_eq_true rfl) ?_
  rw [zU_zU]
  refine zz_aload_n (pc := 29) C dX2_init_29 rfl ?_
  refine zz_iconst (pc := 30) C (v := -1) (by decide) dX2_init_30 ?_
  refine zz_put (pc := 31) C in_X2_init_X2 tyX2 tyX2_ok nmX2 (ci := 2) (t := 1) rfl 3 (by decide) fl_X2_init_26 rfl rfl dX2_init_31 zU_self rfl rfl (Nat.le_of_ble_eq_true rfl) ?_
  rw [zU_zU]
  refine zz_aload_n (pc := 34) C dX2_init_34 rfl ?_
  refine zz_get (pc := 35) C in_X2_init_X2 (ci := 2) rfl 0 (by decide) (fl_X2_init_11) rfl dX2_init_35 zU_self rfl ?_
  refine zz_iconst (pc := 38) C (v := 1) (by decide) dX2_init_38 ?_
  refine zz_new (pc := 39) C 1 inn_X2_init_X1 tyX1 tyX1_ok (by decide +kernel) (by decide +kernel) (by decide +kernel) (ci := 1) rfl zDef1 (Nat.le_of_ble_eq_true rfl) (Nat.le_of_ble_eq_true rfl) dX2_init_39 (fun p1 hp1 _ => ?_)
  refine zz_dup (pc := 42) C dX2_init_42 rfl ?_
  refine zz_iconst (pc := 43) C (v := 1) (by decide) dX2_init_43 ?_
  refine zz_callI (pc := 44) C (c_X1_init l D (a := p1) (t := 1) (x := 1) zU_self) gX2_init_X1_init rfl 1 (by decide +kernel) (by decide +kernel) (by decide +kernel) rfl (by decide +kernel) ⟨Nat.le_of_ble_eq_true rfl, Nat.le_of_ble_eq_true rfl⟩ rfl dX2_init_44 rfl (Nat.le_of_ble_eq_true rfl) rfl ⟨Nat.le_of_ble_eq_true rfl, Nat.le_of_ble_eq_true rfl⟩ ?_
  rintro v G9 ⟨rfl, rfl⟩
  rw [zU_zU]
  have ntx : tb ≠ x := fun z => nxt z.symm
  have np : p1 ≠ tb := fun z => by rw [z, zU_ne ntx, g2] at hp1; cases hp1
  refine zz_aast (pc := 47) C (r := (RX1, TX1, 20)) dX2_init_47 (n := 41) (f := fun _ => none) (t := 1) (by rw [zU_ne (fun z => np z.symm), zU_ne ntx]; exact g2) (v := p1) (tv := 1) (ci := 1) (vs := zPr .null (zNewF 1)) zU_self rfl (vp_in_nI (n := 1) (N := 41) (by decide) (by decide)) ?_
  have nxp : x ≠ p1 := zNe zU_self hp1
  have mev : ev ≠ x := fun z => by rw [z, g1] at e1; cases e1
  have mka : ka ≠ x := fun z => by rw [z, g1] at e2; cases e2
  have mpa : pa ≠ x := fun z => by rw [z, g1] at e3; cases e3
  have tev : ev ≠ tb := fun z => by rw [z, g2] at e1; cases e1
  have tka : ka ≠ tb := fun z => by rw [z, g2] at e2; cases e2
  have tpa : pa ≠ tb := fun z => by rw [z, g2] at e3; cases e3
  have pev : ev ≠ p1 := zNe (show zU G2 x _ ev = _ from by rw [zU_ne mev]; exact e1) hp1
  have pka : ka ≠ p1 := zNe (show zU G2 x _ ka = _ from by rw [zU_ne mka]; exact e2) hp1
  have ppa : pa ≠ p1 := zNe (show zU G2 x _ pa = _ from by rw [zU_ne mpa]; exact e3) hp1
  refine zzx_ret (zz_return (pc := 48) C dX2_init_48 (Nat.le_of_ble_eq_true rfl) (Nat.le_of_ble_eq_true rfl) ⟨rfl, tb, ev, _, zCl_init (ka := ka) (pa := pa) (p1 := p1) ?_ ?_ zU_self ?_ ?_ ?_ e4 ?_⟩)
  · exact (((g3.upd g1).new hp1).upd (e0 := .inl (.object "Signalpost$Proc", 41, .inr (.inr (.inr (.inr (fun _ => none)))))) (by rw [zU_ne (fun z => np z.symm), zU_ne ntx]; exact g2))
  · rw [zU_ne nxt, zU_ne nxp, zU_self]; rfl
  · rw [zU_ne tev, zU_ne pev, zU_ne mev]; exact e1
  · rw [zU_ne tka, zU_ne pka, zU_ne mka]; exact e2
  · rw [zU_ne tpa, zU_ne ppa, zU_ne mpa]; exact e3
  · rw [zU_ne np, zU_self]
