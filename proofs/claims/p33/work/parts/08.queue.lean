section ZQR
variable {p : Program} {l : Launch} {e : Env} {R : Room} {s : State} {m : MethodId} {args : Array Value} {below : List Frame} {meth : Method} {c : Code} {D : va_G} {A : Nat → Prop} {cells slots : Nat} {Q : State → Prop} {G : zG} {pc : Nat} {L : List (Option Value)} {st : List Value}
variable {cc : ByteArray} {nL : Nat} {own : String} {Ts : List Cond} {ret : Option FieldType}
/-- System.arraycopy of ints, between two cells -/
theorem zz_acopy (C : zC p s m args meth c D A cc nL own Ts ret) {index a0 a t0 t1 n0 n1 : Nat} {f g : Nat → Int32} {sp dp n : Int32} (hlink : Cond.methodLink own index arraycopyName ∈ Ts) (hnat : Cond.native arraycopyName ∈ Ts) (hstat : Cond.static arraycopyName ∈ Ts) (hini : Cond.initialized "java/lang/System" ∈ Ts) (hdg : decode cc pc = .ok (.invokestatic index, 3)) (hlen : L.length = nL)
    (he0 : G a0 = some (t0, .inl (.int, n0, .inl f))) (he1 : G a = some (t1, .inl (.int, n1, .inl g))) (h1 : ¬ sp < 0) (h2 : ¬ dp < 0) (h3 : ¬ n < 0) (h4 : sp.toNatClampNeg + n.toNatClampNeg ≤ n0) (h5 : dp.toNatClampNeg + n.toNatClampNeg ≤ n1)
    (hframes : 1 ≤ R.frames) (hlocals : (st.map fun v => v.category).sum + (nativeFrameWords "java/lang/System" "arraycopy" 5 + 11) ≤ R.locals)
    (kk : zV p l e R s m args below meth c D A cells slots Q (zU G a (t1, .inl (.int, n1, .inl (va_cpy f g sp.toNatClampNeg dp.toNatClampNeg n.toNatClampNeg)))) (pc + 3) L st) : zV p l e R s m args below meth c D A cells slots Q G (pc) L (.int n :: .int dp :: .ref a :: .int sp :: .ref a0 :: st) := by
  intro H locs ls hP hS hG hL9
  have nn : ∀ z : Int32, ¬ z < 0 → z.toInt = (z.toNatClampNeg : Int) := by
    intro z hz
    have hz0 : (0 : Int) ≤ z.toInt := by
      have := Int32.not_lt.mp hz
      simpa using Int32.le_iff_toInt_le.mp this
    show z.toInt = ((z.toInt.toNat : Nat) : Int)
    omega
  intro T hT X
  obtain ⟨c0, hc0, hA0, -⟩ := hP a0 _ _ he0
  obtain ⟨c1, hc1, hA1, hR1⟩ := hP a _ _ he1
  obtain ⟨-, k0, hk0, cm0, hkk0⟩ := hA0 n0 (fun j => .int (f j))
  obtain ⟨-, k1, hk1, cm1, hkk1⟩ := hA1 n1 (fun j => .int (g j))
  obtain ⟨vm', X', step⟩ := X.arraycopy C.1.1 C.1.2.2.2.1 (C.ts hlink) (C.ts hnat) (C.ts hstat) (C.ts hini) (src := a0) (dst := a) (cs := vp_cell c0 (n0, .inl f)) (cd := vp_cell c1 (n1, .inl g)) (srcPos := sp) (destPos := dp) (n := n) (by rw [hT]; exact hc0) (by rw [hT]; exact hc1)
    (fun _ h => by cases h) (fun _ h => by cases h) (fun h => by cases h) (fun h => by cases h) hk0 hk1 hkk0 hkk1 (by simp [refKind]) h1 h2 h3
    (by rw [nn sp h1, nn n h3]; show ¬ _ > ((arrV c0 n0 (fun j => .int (f j))).slots.size : Int); rw [arrV_size]; omega)
    (by rw [nn dp h2, nn n h3]; show ¬ _ > ((arrV c1 n1 (fun j => .int (g j))).slots.size : Int); rw [arrV_size]; omega)
    (fun vm₁ _ i hi => by
      have e9 : (vp_cell c0 (n0, .inl f)).slots.getD (sp.toNatClampNeg + i) .null = .int (f (sp.toNatClampNeg + i)) := by
        show (arrV c0 n0 (fun j => .int (f j))).slots.getD _ _ = _
        rw [Array.getD_eq_getD_getElem?, arrV_read _ _ (by omega)]
        rfl
      refine ⟨?_, ?_⟩
      · rw [e9]
        rfl
      · rw [e9]
        exact trivial)
    (g := F0 m pc ls (.int n :: .int dp :: .ref a :: .int sp :: .ref a0 :: st)) rfl (by show ls.size = c.maxLocals; rw [hL9.1, hlen, C.1.2.2.1]) (rest := st) rfl (by rw [C.1.2.1]; exact hdg) hframes (by show 2 * 0 + _ + _ ≤ _; omega)
  have e1 : copied (vp_cell c0 (n0, .inl f)) (vp_cell c1 (n1, .inl g)) sp dp n = vp_cell c1 (n1, .inl (va_cpy f g sp.toNatClampNeg dp.toNatClampNeg n.toNatClampNeg)) := va_copied (fun z => .int z) c0 c1 f g h4
  rw [e1] at X' step
  have hl : a < H.size := (Array.getElem?_eq_some_iff.mp hc1).1
  have hheap : ((T.setVm vm').setCell a (vp_cell c1 (n1, .inl (va_cpy f g sp.toNatClampNeg dp.toNatClampNeg n.toNatClampNeg)))).heap = H.setIfInBounds a (vp_cell c1 (n1, .inl (va_cpy f g sp.toNatClampNeg dp.toNatClampNeg n.toNatClampNeg))) := by rw [← hT]; rfl
  have oq : ∀ q : Nat, q ≠ a → (H.setIfInBounds a (vp_cell c1 (n1, .inl (va_cpy f g sp.toNatClampNeg dp.toNatClampNeg n.toNatClampNeg))))[q]? = H[q]? := fun q hq => by simp [Array.getElem?_setIfInBounds, Ne.symm hq]
  obtain ⟨t, a1, b1⟩ := kk _ _ ls (hP.upd ⟨c1, show (H.setIfInBounds a _)[a]? = some _ by simp [Array.getElem?_setIfInBounds, hl], hA1, hR1⟩ oq) ⟨by simp; exact hS.1, fun q g1 g2 => by
      rw [oq q (fun e => g2 (by rw [e]; exact hG a _ he1))]
      exact hS.2.1 q g1 g2, fun q hq => by
      rcases List.mem_append.mp hq with h | h
      · exact hS.2.2 q h
      · obtain ⟨z, -, hz⟩ := List.mem_map.mp h
        rw [← hz]
        exact hG a _ he1⟩ (zG_upd hG he1) hL9 _ hheap X'
  exact ⟨t, step t a1, b1⟩
theorem zz_mmin (C : zC p s m args meth c D A cc nL own Ts ret) {index : Nat} {x y : Int32} (hlink : Cond.methodLink own index Lib.Math.min.name ∈ Ts) (hstat : Cond.static Lib.Math.min.name ∈ Ts) (hini : Cond.initialized "java/lang/Math" ∈ Ts) (hcode : Cond.code Lib.Math.min.name Lib.Math.min.code 2 (some .int) ∈ Ts) (hlen : L.length = nL) (hframes : 1 ≤ R.frames) (hlocals : (st.map fun v => v.category).sum + 13 ≤ R.locals) (hc : cells ≤ R.cells) (hs : slots ≤ R.slots) (hdg : decode cc pc = .ok (.invokestatic index, 3))
    (kk : zV p l e R s m args below meth c D A cells slots Q G (pc + 3) L (.int (if y < x then y else x) :: st)) : zV p l e R s m args below meth c D A cells slots Q G (pc) L (.int y :: .int x :: st) := fun H locs ls hP hS hG hL9 =>
  va_mmin C.1.1 C.1.2.1 (by rw [C.1.2.2.1, hL9.1, hlen]) C.1.2.2.2.1 (C.ts hlink) (C.ts hstat) (C.ts hini) (C.ts hcode) hframes hlocals hc hs hdg (kk H locs ls hP hS hG hL9)
end ZQR
abbrev zQo (ka pa : Nat) (h t ck cp : Int32) : List Value := [.ref ka, .ref pa, .int h, .int t, .int ck, .int cp]
theorem nI_ic {n : Nat} (h : n < 2 ^ 31) : (nI n).toNatClampNeg = n := nI_clamp h
theorem nI_nn {n : Nat} (h : n < 2 ^ 31) : ¬ nI n < 0 := nI_pos h

set_option maxHeartbeats 4000000 in
set_option maxRecDepth 100000 in
theorem c_J7_copyOf_59c91 (l : Launch) (D : va_G) {G : zG} {a t n0 N tg : Nat} {f : Nat → Int32} (he : G a = some (t, .inl (.int, n0, .inl f))) (hne : n0 ≠ N) (hle : n0 ≤ N) (hN : N ≤ 100000) : zMet D l yJ7_copyOf_59c91 wsJ7_copyOf_59c91 ({ frames := 2, cells := 1, slots := N, locals := 60 } : Room) [.ref a, .int (nI N)] G (fun v G9 => ∃ b : Nat, v = some (.ref b) ∧ G b = none ∧ G9 = zU G b (tg, .inl (.int, N, .inl (va_cpy f (fun _ => 0) 0 0 n0)))) := by
  refine zMet_of (cc := cJ7_copyOf_59c91) (maxL := 3) (ret := (some (.array .int))) (by decide) rfl (Nat.le_of_ble_eq_true rfl) ?_
  intro p e s m args below meth c C hmn
  refine zz_iload_n (pc := 0) C dJ7_copyOf_59c91_0 rfl ?_
  refine zz_aload_n (pc := 1) C dJ7_copyOf_59c91_1 rfl ?_
  refine zz_alen (pc := 2) C dJ7_copyOf_59c91_2 he ?_
  refine zz_icmp_ne (pc := 3) C (tgt := 14) dJ7_copyOf_59c91_3 (by decide) (fun hc3 => ?_) (fun hc3 => ?_)
  · refine zz_iload_n (pc := 14) C dJ7_copyOf_59c91_14 rfl ?_
    refine zz_newarr (pc := 15) C tg (ty := .int) (N := N) (x0 := (N, .inl (fun _ => 0))) (by decide +kernel) rfl (fun _ h => h) (fun cA => rfl) (nI_nn (by omega)) (nI_ic (by omega)) (by show N * 4 ≤ 536870912; omega) (Nat.le_refl _) (by show 0 + N ≤ N; omega) dJ7_copyOf_59c91_15 (fun b hbn hbs => ?_)
    have hb0 : a ≠ b := fun q => by rw [← q, he] at hbn; cases hbn
    refine zz_astore_n (pc := 17) C dJ7_copyOf_59c91_17 (Nat.le_of_ble_eq_true rfl) ?_
    refine zz_aload_n (pc := 18) C dJ7_copyOf_59c91_18 rfl ?_
    refine zz_iconst (pc := 19) C (v := 0) (by decide) dJ7_copyOf_59c91_19 ?_
    refine zz_aload_n (pc := 20) C dJ7_copyOf_59c91_20 rfl ?_
    refine zz_iconst (pc := 21) C (v := 0) (by decide) dJ7_copyOf_59c91_21 ?_
    refine zz_aload_n (pc := 22) C dJ7_copyOf_59c91_22 rfl ?_
    refine zz_alen (pc := 23) C dJ7_copyOf_59c91_23 ((zU_ne hb0).trans he) ?_
    refine zz_iload_n (pc := 24) C dJ7_copyOf_59c91_24 rfl ?_
    refine zz_mmin (pc := 25) C (by decide +kernel) (by decide +kernel) (by decide +kernel) (by decide +kernel) rfl (Nat.le_of_ble_eq_true rfl) (Nat.le_of_ble_eq_true rfl) (Nat.le_refl _) (by show 0 + N ≤ N; omega) dJ7_copyOf_59c91_25 ?_
    rw [if_neg (show ¬ nI N < Int32.ofNat n0 from fun q => absurd q (nI_nlt (a := N) (b := n0) (by omega) (by omega)))]
    refine zz_acopy (pc := 28) C (by decide +kernel) (by decide +kernel) (by decide +kernel) (by decide +kernel) dJ7_copyOf_59c91_28 rfl ((zU_ne hb0).trans he) zU_self (by decide) (by decide) (nI_nn (n := n0) (by omega)) (by show 0 + (nI n0).toNatClampNeg ≤ n0; rw [nI_ic (by omega)]; omega) (by show 0 + (nI n0).toNatClampNeg ≤ N; rw [nI_ic (by omega)]; omega) (Nat.le_of_ble_eq_true rfl) (Nat.le_of_ble_eq_true rfl) ?_
    rw [zU_zU]
    refine zz_aload_n (pc := 31) C dJ7_copyOf_59c91_31 rfl ?_
    exact zz_areturn (pc := 32) C dJ7_copyOf_59c91_32 (Or.inr ⟨_, rfl⟩) (Or.inr ⟨_, rfl⟩) (Nat.le_refl _) (by show 0 + N ≤ N; omega) ⟨b, rfl, hbn, by show zU G b (tg, .inl (.int, N, .inl (va_cpy f (fun _ => 0) 0 0 (nI n0).toNatClampNeg))) = _; rw [nI_ic (by omega)]⟩
  · exact absurd hc3 (fun q => hne (by have h9 := (nI_eq (show N < 2 ^ 31 by omega) (show n0 < 2 ^ 31 by omega)).mp (Classical.not_not.mp q); exact h9.symm))
theorem fl_X0_clear_29 : Cond.fieldLink RX0 29 "Signalpost$EventQueue" "head" "I" ∈ wsX0_clear := by decide +kernel
theorem fl_X0_clear_18 : Cond.fieldLink RX0 18 "Signalpost$EventQueue" "tail" "I" ∈ wsX0_clear := by decide +kernel
theorem in_X0_clear_X0 : ∀ w ∈ u_ws RX0 TX0 6, w ∈ wsX0_clear := by decide +kernel
set_option maxHeartbeats 4000000 in
set_option maxRecDepth 100000 in
theorem c_X0_clear (l : Launch) (D : va_G) {G : zG} {a tg ka pa : Nat} {h t ck cp : Int32} (hq : G a = some (tg, .inr (0, zQo ka pa h t ck cp))) : zMet D l yX0_clear wsX0_clear ({ frames := 0, cells := 0, slots := 0, locals := 0 } : Room) [.ref a] G (fun v G9 => v = none ∧ G9 = zU G a (tg, .inr (0, zQo ka pa 0 0 ck cp))) := by
  refine zMet_of (cc := cX0_clear) (maxL := 1) (ret := none) (by decide) rfl (Nat.le_of_ble_eq_true rfl) ?_
  intro p e s m args below meth c C hmn
  refine zV.eqG (zU_id hq).symm ?_
  refine zz_aload_n (pc := 0) C dX0_clear_0 rfl ?_
  refine zz_iconst (pc := 1) C (v := 0) (by decide) dX0_clear_1 ?_
  refine zz_put (pc := 2) C in_X0_clear_X0 tyX0 tyX0_ok nmX0 (ci := 0) rfl 2 (by decide) fl_X0_clear_29 rfl rfl dX0_clear_2 zU_self rfl rfl (Nat.le_of_ble_eq_true rfl) ?_
  rw [zU_zU]
  refine zz_aload_n (pc := 5) C dX0_clear_5 rfl ?_
  refine zz_iconst (pc := 6) C (v := 0) (by decide) dX0_clear_6 ?_
  refine zz_put (pc := 7) C in_X0_clear_X0 tyX0 tyX0_ok nmX0 (ci := 0) rfl 3 (by decide) fl_X0_clear_18 rfl rfl dX0_clear_7 zU_self rfl rfl (Nat.le_of_ble_eq_true rfl) ?_
  rw [zU_zU]
  exact zz_return (pc := 10) C dX0_clear_10 (Nat.le_refl _) (Nat.le_refl _) ⟨rfl, rfl⟩
theorem fl_X0_advance_29 : Cond.fieldLink RX0 29 "Signalpost$EventQueue" "head" "I" ∈ wsX0_advance := by decide +kernel
theorem fl_X0_advance_18 : Cond.fieldLink RX0 18 "Signalpost$EventQueue" "tail" "I" ∈ wsX0_advance := by decide +kernel
theorem fl_X0_advance_11 : Cond.fieldLink RX0 11 "Signalpost$EventQueue" "kinds" "[I" ∈ wsX0_advance := by decide +kernel
theorem fl_X0_advance_15 : Cond.fieldLink RX0 15 "Signalpost$EventQueue" "pids" "[I" ∈ wsX0_advance := by decide +kernel
theorem fl_X0_advance_32 : Cond.fieldLink RX0 32 "Signalpost$EventQueue" "currentKind" "I" ∈ wsX0_advance := by decide +kernel
theorem fl_X0_advance_35 : Cond.fieldLink RX0 35 "Signalpost$EventQueue" "currentPid" "I" ∈ wsX0_advance := by decide +kernel
theorem in_X0_advance_X0 : ∀ w ∈ u_ws RX0 TX0 6, w ∈ wsX0_advance := by decide +kernel
set_option maxHeartbeats 4000000 in
set_option maxRecDepth 100000 in
theorem c_X0_advance (l : Launch) (D : va_G) {G : zG} {a tg ka pa tk tp h t cap : Nat} {ck cp : Int32} {fk fp : Nat → Int32} (hq : G a = some (tg, .inr (0, zQo ka pa (nI h) (nI t) ck cp))) (hk : G ka = some (tk, .inl (.int, cap, .inl fk))) (hp : G pa = some (tp, .inl (.int, cap, .inl fp))) (htc : t ≤ cap) (hcap : cap ≤ 65536) (hlt : h < t) : zMet D l yX0_advance wsX0_advance ({ frames := 0, cells := 0, slots := 0, locals := 0 } : Room) [.ref a] G (fun v G9 => v = some (.int 1) ∧ G9 = zU G a (tg, .inr (0, zQo ka pa (nI (h + 1)) (nI t) (fk h) (fp h)))) := by
  refine zMet_of (cc := cX0_advance) (maxL := 1) (ret := (some .boolean)) (by decide) rfl (Nat.le_of_ble_eq_true rfl) ?_
  intro p e s m args below meth c C hmn
  have hka : ka ≠ a := fun q => by rw [q, hq] at hk; cases hk
  have hpa : pa ≠ a := fun q => by rw [q, hq] at hp; cases hp
  refine zV.eqG (zU_id hq).symm ?_
  refine zz_aload_n (pc := 0) C dX0_advance_0 rfl ?_
  refine zz_get (pc := 1) C in_X0_advance_X0 (ci := 0) rfl 2 (by decide) (fl_X0_advance_29) rfl dX0_advance_1 zU_self rfl ?_
  refine zz_aload_n (pc := 4) C dX0_advance_4 rfl ?_
  refine zz_get (pc := 5) C in_X0_advance_X0 (ci := 0) rfl 3 (by decide) (fl_X0_advance_18) rfl dX0_advance_5 zU_self rfl ?_
  refine zz_icmp_ge (pc := 8) C (tgt := 35) dX0_advance_8 (by decide) (fun hc8 => ?_) (fun hc8 => ?_)
  · exact absurd hc8 (nI_ge hlt (by omega))
  · refine zz_aload_n (pc := 11) C dX0_advance_11 rfl ?_
    refine zz_get (pc := 12) C in_X0_advance_X0 (ci := 0) rfl 2 (by decide) (fl_X0_advance_29) rfl dX0_advance_12 zU_self rfl ?_
    refine zz_aload_n (pc := 15) C dX0_advance_15 rfl ?_
    refine zz_get (pc := 16) C in_X0_advance_X0 (ci := 0) rfl 0 (by decide) (fl_X0_advance_11) rfl dX0_advance_16 zU_self rfl ?_
    refine zz_alen (pc := 19) C dX0_advance_19 ((zU_ne hka).trans hk) ?_
    refine zz_icmp_ge (pc := 20) C (tgt := 35) dX0_advance_20 (by decide) (fun hc20 => ?_) (fun hc20 => ?_)
    · exact absurd hc20 (nI_ge (a := h) (b := cap) (by omega) (by omega))
    · refine zz_aload_n (pc := 23) C dX0_advance_23 rfl ?_
      refine zz_get (pc := 24) C in_X0_advance_X0 (ci := 0) rfl 2 (by decide) (fl_X0_advance_29) rfl dX0_advance_24 zU_self rfl ?_
      refine zz_aload_n (pc := 27) C dX0_advance_27 rfl ?_
      refine zz_get (pc := 28) C in_X0_advance_X0 (ci := 0) rfl 1 (by decide) (fl_X0_advance_15) rfl dX0_advance_28 zU_self rfl ?_
      refine zz_alen (pc := 31) C dX0_advance_31 ((zU_ne hpa).trans hp) ?_
      refine zz_icmp_lt (pc := 32) C (tgt := 37) dX0_advance_32 (by decide) (fun hc32 => ?_) (fun hc32 => ?_)
      · refine zz_aload_n (pc := 37) C dX0_advance_37 rfl ?_
        refine zz_aload_n (pc := 38) C dX0_advance_38 rfl ?_
        refine zz_get (pc := 39) C in_X0_advance_X0 (ci := 0) rfl 0 (by decide) (fl_X0_advance_11) rfl dX0_advance_39 zU_self rfl ?_
        refine zz_aload_n (pc := 42) C dX0_advance_42 rfl ?_
        refine zz_get (pc := 43) C in_X0_advance_X0 (ci := 0) rfl 2 (by decide) (fl_X0_advance_29) rfl dX0_advance_43 zU_self rfl ?_
        refine zz_iald (pc := 46) C dX0_advance_46 ((zU_ne hka).trans hk) (vp_in_nI (by omega) (by omega)) ?_
        rw [nI_ic (by omega)]
        refine zz_put (pc := 47) C in_X0_advance_X0 tyX0 tyX0_ok nmX0 (ci := 0) rfl 4 (by decide) fl_X0_advance_32 rfl rfl dX0_advance_47 zU_self rfl rfl (Nat.le_of_ble_eq_true rfl) ?_
        rw [zU_zU]
        refine zz_aload_n (pc := 50) C dX0_advance_50 rfl ?_
        refine zz_aload_n (pc := 51) C dX0_advance_51 rfl ?_
        refine zz_get (pc := 52) C in_X0_advance_X0 (ci := 0) rfl 1 (by decide) (fl_X0_advance_15) rfl dX0_advance_52 zU_self rfl ?_
        refine zz_aload_n (pc := 55) C dX0_advance_55 rfl ?_
        refine zz_get (pc := 56) C in_X0_advance_X0 (ci := 0) rfl 2 (by decide) (fl_X0_advance_29) rfl dX0_advance_56 zU_self rfl ?_
        refine zz_iald (pc := 59) C dX0_advance_59 ((zU_ne hpa).trans hp) (vp_in_nI (by omega) (by omega)) ?_
        rw [nI_ic (by omega)]
        refine zz_put (pc := 60) C in_X0_advance_X0 tyX0 tyX0_ok nmX0 (ci := 0) rfl 5 (by decide) fl_X0_advance_35 rfl rfl dX0_advance_60 zU_self rfl rfl (Nat.le_of_ble_eq_true rfl) ?_
        rw [zU_zU]
        refine zz_aload_n (pc := 63) C dX0_advance_63 rfl ?_
        refine zz_dup (pc := 64) C dX0_advance_64 rfl ?_
        refine zz_get (pc := 65) C in_X0_advance_X0 (ci := 0) rfl 2 (by decide) (fl_X0_advance_29) rfl dX0_advance_65 zU_self rfl ?_
        refine zz_iconst (pc := 68) C (v := 1) (by decide) dX0_advance_68 ?_
        refine zz_iadd (pc := 69) C dX0_advance_69 ?_
        refine zz_put (pc := 70) C in_X0_advance_X0 tyX0 tyX0_ok nmX0 (ci := 0) rfl 2 (by decide) fl_X0_advance_29 rfl rfl dX0_advance_70 zU_self rfl rfl (Nat.le_of_ble_eq_true rfl) ?_
        rw [zU_zU]
        refine zz_iconst (pc := 73) C (v := 1) (by decide) dX0_advance_73 ?_
        exact zz_ireturn (pc := 74) C dX0_advance_74 (by decide) (Nat.le_refl _) (Nat.le_refl _) ⟨rfl, by rw [show nI h + 1 = nI (h + 1) from nI_1 h]; rfl⟩
      · exact absurd (nI_lt (a := h) (b := cap) (by omega) (by omega)) hc32
set_option maxHeartbeats 4000000 in
set_option maxRecDepth 100000 in
theorem c_X0_advance_end (l : Launch) (D : va_G) {G : zG} {a tg ka pa tk tp h t cap : Nat} {ck cp : Int32} {fk fp : Nat → Int32} (hq : G a = some (tg, .inr (0, zQo ka pa (nI h) (nI t) ck cp))) (hk : G ka = some (tk, .inl (.int, cap, .inl fk))) (hp : G pa = some (tp, .inl (.int, cap, .inl fp))) (htc : t ≤ cap) (hcap : cap ≤ 65536) (hge : t ≤ h) (hh : h ≤ 65536) : zMet D l yX0_advance wsX0_advance ({ frames := 0, cells := 0, slots := 0, locals := 0 } : Room) [.ref a] G (fun v G9 => v = some (.int 0) ∧ G9 = G) := by
  refine zMet_of (cc := cX0_advance) (maxL := 1) (ret := (some .boolean)) (by decide) rfl (Nat.le_of_ble_eq_true rfl) ?_
  intro p e s m args below meth c C hmn
  have hka : ka ≠ a := fun q => by rw [q, hq] at hk; cases hk
  have hpa : pa ≠ a := fun q => by rw [q, hq] at hp; cases hp
  refine zV.eqG (zU_id hq).symm ?_
  refine zz_aload_n (pc := 0) C dX0_advance_0 rfl ?_
  refine zz_get (pc := 1) C in_X0_advance_X0 (ci := 0) rfl 2 (by decide) (fl_X0_advance_29) rfl dX0_advance_1 zU_self rfl ?_
  refine zz_aload_n (pc := 4) C dX0_advance_4 rfl ?_
  refine zz_get (pc := 5) C in_X0_advance_X0 (ci := 0) rfl 3 (by decide) (fl_X0_advance_18) rfl dX0_advance_5 zU_self rfl ?_
  refine zz_icmp_ge (pc := 8) C (tgt := 35) dX0_advance_8 (by decide) (fun hc8 => ?_) (fun hc8 => ?_)
  · refine zz_iconst (pc := 35) C (v := 0) (by decide) dX0_advance_35 ?_
    exact zz_ireturn (pc := 36) C dX0_advance_36 (by decide) (Nat.le_refl _) (Nat.le_refl _) ⟨rfl, zU_id hq⟩
  · exact absurd (nI_le (a := t) (b := h) hge (by omega)) hc8
theorem fl_X0_append_18 : Cond.fieldLink RX0 18 "Signalpost$EventQueue" "tail" "I" ∈ wsX0_append := by decide +kernel
theorem fl_X0_append_11 : Cond.fieldLink RX0 11 "Signalpost$EventQueue" "kinds" "[I" ∈ wsX0_append := by decide +kernel
theorem fl_X0_append_15 : Cond.fieldLink RX0 15 "Signalpost$EventQueue" "pids" "[I" ∈ wsX0_append := by decide +kernel
theorem in_X0_append_X0 : ∀ w ∈ u_ws RX0 TX0 6, w ∈ wsX0_append := by decide +kernel
set_option maxHeartbeats 4000000 in
set_option maxRecDepth 100000 in
theorem c_X0_append (l : Launch) (D : va_G) {G : zG} {a tg ka pa t cap : Nat} {h ck cp x y : Int32} {fk fp : Nat → Int32} (hq : G a = some (tg, .inr (0, zQo ka pa h (nI t) ck cp))) (hk : G ka = some (tg, .inl (.int, cap, .inl fk))) (hp : G pa = some (tg, .inl (.int, cap, .inl fp))) (hkp : ka ≠ pa) (hcap : cap ≤ 32768) (hlt : t < cap) : zMet D l yX0_append wsX0_append ({ frames := 3, cells := 0, slots := 0, locals := 82 } : Room) [.ref a, .int x, .int y] G (fun v G9 => v = none ∧ ∃ (kb pb : Nat) (gk gp : Nat → Int32), G9 a = some (tg, .inr (0, zQo kb pb h (nI (t + 1)) ck cp)) ∧ G9 kb = some (tg, .inl (.int, cap, .inl gk)) ∧ G9 pb = some (tg, .inl (.int, cap, .inl gp)) ∧ kb ≠ pb ∧ gk t = x ∧ gp t = y ∧ (∀ i, i < t → gk i = fk i ∧ gp i = fp i) ∧ ∀ (q : Nat) (y : Nat × zE), G q = some y → q ≠ a → q ≠ ka → q ≠ pa → G9 q = some y) := by
  refine zMet_of (cc := cX0_append) (maxL := 3) (ret := none) (by decide) rfl (Nat.le_of_ble_eq_true rfl) ?_
  intro p e s m args below meth c C hmn
  have hka : ka ≠ a := fun q => by rw [q, hq] at hk; cases hk
  have hpa : pa ≠ a := fun q => by rw [q, hq] at hp; cases hp
  have k55 : ∀ (G1 : zG) (kb pb n : Nat) (gk gp : Nat → Int32), kb ≠ a → pb ≠ a → kb ≠ pb → t < n → n ≤ 65536 → G1 kb = some (tg, .inl (.int, n, .inl gk)) → G1 pb = some (tg, .inl (.int, n, .inl gp)) → (∀ i, i < t → gk i = fk i ∧ gp i = fp i) → n = cap → (∀ (q : Nat) (y : Nat × zE), G q = some y → q ≠ a → q ≠ ka → q ≠ pa → G1 q = some y) → (∀ (q : Nat) (z : Nat × zE), G q = some z → q ≠ ka → q ≠ pa → q ≠ kb) → (∀ (q : Nat) (z : Nat × zE), G q = some z → q ≠ ka → q ≠ pa → q ≠ pb) → zV p l e ({ frames := 3, cells := 0, slots := 0, locals := 82 } : Room) s m args below meth c D (zA G s.heap.size) 0 0 (zZ below D G (fun v G9 => v = none ∧ ∃ (kb pb : Nat) (gk gp : Nat → Int32), G9 a = some (tg, .inr (0, zQo kb pb h (nI (t + 1)) ck cp)) ∧ G9 kb = some (tg, .inl (.int, cap, .inl gk)) ∧ G9 pb = some (tg, .inl (.int, cap, .inl gp)) ∧ kb ≠ pb ∧ gk t = x ∧ gp t = y ∧ (∀ i, i < t → gk i = fk i ∧ gp i = fp i) ∧ ∀ (q : Nat) (y : Nat × zE), G q = some y → q ≠ a → q ≠ ka → q ≠ pa → G9 q = some y) args s ({ frames := 3, cells := 0, slots := 0, locals := 82 } : Room)) (zU G1 a (tg, .inr (0, zQo kb pb h (nI t) ck cp))) 55 [some (.ref a), some (.int x), some (.int y)] [] := by
    intro G1 kb pb n gk gp hkba hpba hkb htn hn e1 e2 hold hnN hfr hnewk hnewp
    refine zz_aload_n (pc := 55) C dX0_append_55 rfl ?_
    refine zz_get (pc := 56) C in_X0_append_X0 (ci := 0) rfl 3 (by decide) (fl_X0_append_18) rfl dX0_append_56 zU_self rfl ?_
    refine zz_aload_n (pc := 59) C dX0_append_59 rfl ?_
    refine zz_get (pc := 60) C in_X0_append_X0 (ci := 0) rfl 0 (by decide) (fl_X0_append_11) rfl dX0_append_60 zU_self rfl ?_
    refine zz_alen (pc := 63) C dX0_append_63 ((zU_ne hkba).trans e1) ?_
    refine zz_icmp_ge (pc := 64) C (tgt := 109) dX0_append_64 (by decide) (fun hc64 => ?_) (fun hc64 => ?_)
    · exact absurd hc64 (nI_ge (a := t) (b := n) htn (by omega))
    · refine zz_aload_n (pc := 67) C dX0_append_67 rfl ?_
      refine zz_get (pc := 68) C in_X0_append_X0 (ci := 0) rfl 3 (by decide) (fl_X0_append_18) rfl dX0_append_68 zU_self rfl ?_
      refine zz_aload_n (pc := 71) C dX0_append_71 rfl ?_
      refine zz_get (pc := 72) C in_X0_append_X0 (ci := 0) rfl 1 (by decide) (fl_X0_append_15) rfl dX0_append_72 zU_self rfl ?_
      refine zz_alen (pc := 75) C dX0_append_75 ((zU_ne hpba).trans e2) ?_
      refine zz_icmp_ge (pc := 76) C (tgt := 109) dX0_append_76 (by decide) (fun hc76 => ?_) (fun hc76 => ?_)
      · exact absurd hc76 (nI_ge (a := t) (b := n) htn (by omega))
      · refine zz_aload_n (pc := 79) C dX0_append_79 rfl ?_
        refine zz_get (pc := 80) C in_X0_append_X0 (ci := 0) rfl 0 (by decide) (fl_X0_append_11) rfl dX0_append_80 zU_self rfl ?_
        refine zz_aload_n (pc := 83) C dX0_append_83 rfl ?_
        refine zz_get (pc := 84) C in_X0_append_X0 (ci := 0) rfl 3 (by decide) (fl_X0_append_18) rfl dX0_append_84 zU_self rfl ?_
        refine zz_iload_n (pc := 87) C dX0_append_87 rfl ?_
        refine zz_iast (pc := 88) C dX0_append_88 ((zU_ne hkba).trans e1) (vp_in_nI htn (by omega)) ?_
        rw [nI_ic (by omega)]
        refine zz_aload_n (pc := 89) C dX0_append_89 rfl ?_
        refine zz_get (pc := 90) C in_X0_append_X0 (ci := 0) rfl 1 (by decide) (fl_X0_append_15) rfl dX0_append_90 ((zU_ne (Ne.symm hkba)).trans zU_self) rfl ?_
        refine zz_aload_n (pc := 93) C dX0_append_93 rfl ?_
        refine zz_get (pc := 94) C in_X0_append_X0 (ci := 0) rfl 3 (by decide) (fl_X0_append_18) rfl dX0_append_94 ((zU_ne (Ne.symm hkba)).trans zU_self) rfl ?_
        refine zz_iload_n (pc := 97) C dX0_append_97 rfl ?_
        refine zz_iast (pc := 98) C dX0_append_98 ((zU_ne (Ne.symm hkb)).trans ((zU_ne hpba).trans e2)) (vp_in_nI htn (by omega)) ?_
        rw [nI_ic (by omega)]
        refine zz_aload_n (pc := 99) C dX0_append_99 rfl ?_
        refine zz_dup (pc := 100) C dX0_append_100 rfl ?_
        refine zz_get (pc := 101) C in_X0_append_X0 (ci := 0) rfl 3 (by decide) (fl_X0_append_18) rfl dX0_append_101 ((zU_ne (Ne.symm hpba)).trans ((zU_ne (Ne.symm hkba)).trans zU_self)) rfl ?_
        refine zz_iconst (pc := 104) C (v := 1) (by decide) dX0_append_104 ?_
        refine zz_iadd (pc := 105) C dX0_append_105 ?_
        refine zz_put (pc := 106) C in_X0_append_X0 tyX0 tyX0_ok nmX0 (ci := 0) rfl 3 (by decide) fl_X0_append_18 rfl rfl dX0_append_106 ((zU_ne (Ne.symm hpba)).trans ((zU_ne (Ne.symm hkba)).trans zU_self)) rfl rfl (Nat.le_of_ble_eq_true rfl) ?_
        rw [show nI t + 1 = nI (t + 1) from nI_1 t]
        refine zz_return (pc := 109) C dX0_append_109 (Nat.le_refl _) (Nat.le_refl _) ⟨rfl, kb, pb, upd gk t x, upd gp t y, zU_self, ?_, ?_, hkb, by simp [upd], by simp [upd], fun i hi => by have := hold i hi; simp [upd, Nat.ne_of_lt hi, this], fun q z hq1 h1 h2 h3 => ?_⟩
        · rw [zU_ne hkba, zU_ne hkb, zU_self, hnN]
        · rw [zU_ne hpba, zU_self, hnN]
        · by_cases hqk : q = kb
          · exact absurd hqk (hnewk q z hq1 h2 h3)
          · by_cases hqp : q = pb
            · exact absurd hqp (hnewp q z hq1 h2 h3)
            · rw [zU_ne h1, zU_ne hqp, zU_ne hqk, zU_ne h1]; exact hfr q z hq1 h1 h2 h3
  refine zV.eqG (zU_id hq).symm ?_
  refine zz_aload_n (pc := 0) C dX0_append_0 rfl ?_
  refine zz_get (pc := 1) C in_X0_append_X0 (ci := 0) rfl 3 (by decide) (fl_X0_append_18) rfl dX0_append_1 zU_self rfl ?_
  refine zz_aload_n (pc := 4) C dX0_append_4 rfl ?_
  refine zz_get (pc := 5) C in_X0_append_X0 (ci := 0) rfl 0 (by decide) (fl_X0_append_11) rfl dX0_append_5 zU_self rfl ?_
  refine zz_alen (pc := 8) C dX0_append_8 ((zU_ne hka).trans hk) ?_
  refine zz_icmp_lt (pc := 9) C (tgt := 55) dX0_append_9 (by decide) (fun hc9 => ?_) (fun hc9 => ?_)
  · exact k55 G ka pa cap fk fp hka hpa hkp hlt (by omega) hk hp (fun i hi => ⟨rfl, rfl⟩) rfl (fun q z h1 _ _ _ => h1) (fun q z _ h _ => h) (fun q z _ _ h => h)
  · exact absurd (nI_lt (a := t) (b := cap) hlt (by omega)) hc9
set_option maxHeartbeats 4000000 in
set_option maxRecDepth 100000 in
theorem c_X0_append_grow (l : Launch) (D : va_G) {G : zG} {a tg ka pa cap : Nat} {h ck cp x y : Int32} {fk fp : Nat → Int32} (hq : G a = some (tg, .inr (0, zQo ka pa h (nI cap) ck cp))) (hk : G ka = some (tg, .inl (.int, cap, .inl fk))) (hp : G pa = some (tg, .inl (.int, cap, .inl fp))) (hkp : ka ≠ pa) (hcap : cap ≤ 32768) (hc1 : 2 ≤ cap) : zMet D l yX0_append wsX0_append ({ frames := 3, cells := cap, slots := 4 * cap, locals := 82 } : Room) [.ref a, .int x, .int y] G (fun v G9 => v = none ∧ ∃ (kb pb : Nat) (gk gp : Nat → Int32), G9 a = some (tg, .inr (0, zQo kb pb h (nI (cap + 1)) ck cp)) ∧ G9 kb = some (tg, .inl (.int, 2 * cap, .inl gk)) ∧ G9 pb = some (tg, .inl (.int, 2 * cap, .inl gp)) ∧ kb ≠ pb ∧ gk cap = x ∧ gp cap = y ∧ (∀ i, i < cap → gk i = fk i ∧ gp i = fp i) ∧ ∀ (q : Nat) (y : Nat × zE), G q = some y → q ≠ a → q ≠ ka → q ≠ pa → G9 q = some y) := by
  refine zMet_of (cc := cX0_append) (maxL := 3) (ret := none) (by decide) rfl (Nat.le_of_ble_eq_true rfl) ?_
  intro p e s m args below meth c C hmn
  have hka : ka ≠ a := fun q => by rw [q, hq] at hk; cases hk
  have hpa : pa ≠ a := fun q => by rw [q, hq] at hp; cases hp
  have k55 : ∀ (G1 : zG) (kb pb n : Nat) (gk gp : Nat → Int32), kb ≠ a → pb ≠ a → kb ≠ pb → cap < n → n ≤ 65536 → G1 kb = some (tg, .inl (.int, n, .inl gk)) → G1 pb = some (tg, .inl (.int, n, .inl gp)) → (∀ i, i < cap → gk i = fk i ∧ gp i = fp i) → n = 2 * cap → (∀ (q : Nat) (y : Nat × zE), G q = some y → q ≠ a → q ≠ ka → q ≠ pa → G1 q = some y) → (∀ (q : Nat) (z : Nat × zE), G q = some z → q ≠ ka → q ≠ pa → q ≠ kb) → (∀ (q : Nat) (z : Nat × zE), G q = some z → q ≠ ka → q ≠ pa → q ≠ pb) → zV p l e ({ frames := 3, cells := cap, slots := 4 * cap, locals := 82 } : Room) s m args below meth c D (zA G s.heap.size) (0 + 1 + 1) (0 + 2 * cap + 2 * cap) (zZ below D G (fun v G9 => v = none ∧ ∃ (kb pb : Nat) (gk gp : Nat → Int32), G9 a = some (tg, .inr (0, zQo kb pb h (nI (cap + 1)) ck cp)) ∧ G9 kb = some (tg, .inl (.int, 2 * cap, .inl gk)) ∧ G9 pb = some (tg, .inl (.int, 2 * cap, .inl gp)) ∧ kb ≠ pb ∧ gk cap = x ∧ gp cap = y ∧ (∀ i, i < cap → gk i = fk i ∧ gp i = fp i) ∧ ∀ (q : Nat) (y : Nat × zE), G q = some y → q ≠ a → q ≠ ka → q ≠ pa → G9 q = some y) args s ({ frames := 3, cells := cap, slots := 4 * cap, locals := 82 } : Room)) (zU G1 a (tg, .inr (0, zQo kb pb h (nI cap) ck cp))) 55 [some (.ref a), some (.int x), some (.int y)] [] := by
    intro G1 kb pb n gk gp hkba hpba hkb htn hn e1 e2 hold hnN hfr hnewk hnewp
    refine zz_aload_n (pc := 55) C dX0_append_55 rfl ?_
    refine zz_get (pc := 56) C in_X0_append_X0 (ci := 0) rfl 3 (by decide) (fl_X0_append_18) rfl dX0_append_56 zU_self rfl ?_
    refine zz_aload_n (pc := 59) C dX0_append_59 rfl ?_
    refine zz_get (pc := 60) C in_X0_append_X0 (ci := 0) rfl 0 (by decide) (fl_X0_append_11) rfl dX0_append_60 zU_self rfl ?_
    refine zz_alen (pc := 63) C dX0_append_63 ((zU_ne hkba).trans e1) ?_
    refine zz_icmp_ge (pc := 64) C (tgt := 109) dX0_append_64 (by decide) (fun hc64 => ?_) (fun hc64 => ?_)
    · exact absurd hc64 (nI_ge (a := cap) (b := n) htn (by omega))
    · refine zz_aload_n (pc := 67) C dX0_append_67 rfl ?_
      refine zz_get (pc := 68) C in_X0_append_X0 (ci := 0) rfl 3 (by decide) (fl_X0_append_18) rfl dX0_append_68 zU_self rfl ?_
      refine zz_aload_n (pc := 71) C dX0_append_71 rfl ?_
      refine zz_get (pc := 72) C in_X0_append_X0 (ci := 0) rfl 1 (by decide) (fl_X0_append_15) rfl dX0_append_72 zU_self rfl ?_
      refine zz_alen (pc := 75) C dX0_append_75 ((zU_ne hpba).trans e2) ?_
      refine zz_icmp_ge (pc := 76) C (tgt := 109) dX0_append_76 (by decide) (fun hc76 => ?_) (fun hc76 => ?_)
      · exact absurd hc76 (nI_ge (a := cap) (b := n) htn (by omega))
      · refine zz_aload_n (pc := 79) C dX0_append_79 rfl ?_
        refine zz_get (pc := 80) C in_X0_append_X0 (ci := 0) rfl 0 (by decide) (fl_X0_append_11) rfl dX0_append_80 zU_self rfl ?_
        refine zz_aload_n (pc := 83) C dX0_append_83 rfl ?_
        refine zz_get (pc := 84) C in_X0_append_X0 (ci := 0) rfl 3 (by decide) (fl_X0_append_18) rfl dX0_append_84 zU_self rfl ?_
        refine zz_iload_n (pc := 87) C dX0_append_87 rfl ?_
        refine zz_iast (pc := 88) C dX0_append_88 ((zU_ne hkba).trans e1) (vp_in_nI htn (by omega)) ?_
        rw [nI_ic (by omega)]
        refine zz_aload_n (pc := 89) C dX0_append_89 rfl ?_
        refine zz_get (pc := 90) C in_X0_append_X0 (ci := 0) rfl 1 (by decide) (fl_X0_append_15) rfl dX0_append_90 ((zU_ne (Ne.symm hkba)).trans zU_self) rfl ?_
        refine zz_aload_n (pc := 93) C dX0_append_93 rfl ?_
        refine zz_get (pc := 94) C in_X0_append_X0 (ci := 0) rfl 3 (by decide) (fl_X0_append_18) rfl dX0_append_94 ((zU_ne (Ne.symm hkba)).trans zU_self) rfl ?_
        refine zz_iload_n (pc := 97) C dX0_append_97 rfl ?_
        refine zz_iast (pc := 98) C dX0_append_98 ((zU_ne (Ne.symm hkb)).trans ((zU_ne hpba).trans e2)) (vp_in_nI htn (by omega)) ?_
        rw [nI_ic (by omega)]
        refine zz_aload_n (pc := 99) C dX0_append_99 rfl ?_
        refine zz_dup (pc := 100) C dX0_append_100 rfl ?_
        refine zz_get (pc := 101) C in_X0_append_X0 (ci := 0) rfl 3 (by decide) (fl_X0_append_18) rfl dX0_append_101 ((zU_ne (Ne.symm hpba)).trans ((zU_ne (Ne.symm hkba)).trans zU_self)) rfl ?_
        refine zz_iconst (pc := 104) C (v := 1) (by decide) dX0_append_104 ?_
        refine zz_iadd (pc := 105) C dX0_append_105 ?_
        refine zz_put (pc := 106) C in_X0_append_X0 tyX0 tyX0_ok nmX0 (ci := 0) rfl 3 (by decide) fl_X0_append_18 rfl rfl dX0_append_106 ((zU_ne (Ne.symm hpba)).trans ((zU_ne (Ne.symm hkba)).trans zU_self)) rfl rfl (Nat.le_of_ble_eq_true rfl) ?_
        rw [show nI cap + 1 = nI (cap + 1) from nI_1 cap]
        refine zz_return (pc := 109) C dX0_append_109 (show 0 + 1 + 1 ≤ cap by omega) (show 0 + 2 * cap + 2 * cap ≤ 4 * cap by omega) ⟨rfl, kb, pb, upd gk cap x, upd gp cap y, zU_self, ?_, ?_, hkb, by simp [upd], by simp [upd], fun i hi => by have := hold i hi; simp [upd, Nat.ne_of_lt hi, this], fun q z hq1 h1 h2 h3 => ?_⟩
        · rw [zU_ne hkba, zU_ne hkb, zU_self, hnN]
        · rw [zU_ne hpba, zU_self, hnN]
        · by_cases hqk : q = kb
          · exact absurd hqk (hnewk q z hq1 h2 h3)
          · by_cases hqp : q = pb
            · exact absurd hqp (hnewp q z hq1 h2 h3)
            · rw [zU_ne h1, zU_ne hqp, zU_ne hqk, zU_ne h1]; exact hfr q z hq1 h1 h2 h3
  refine zV.eqG (zU_id hq).symm ?_
  refine zz_aload_n (pc := 0) C dX0_append_0 rfl ?_
  refine zz_get (pc := 1) C in_X0_append_X0 (ci := 0) rfl 3 (by decide) (fl_X0_append_18) rfl dX0_append_1 zU_self rfl ?_
  refine zz_aload_n (pc := 4) C dX0_append_4 rfl ?_
  refine zz_get (pc := 5) C in_X0_append_X0 (ci := 0) rfl 0 (by decide) (fl_X0_append_11) rfl dX0_append_5 zU_self rfl ?_
  refine zz_alen (pc := 8) C dX0_append_8 ((zU_ne hka).trans hk) ?_
  refine zz_icmp_lt (pc := 9) C (tgt := 55) dX0_append_9 (by decide) (fun hc9 => ?_) (fun hc9 => ?_)
  · exact absurd hc9 (nI_nlt (a := cap) (b := cap) (Nat.le_refl _) (by omega))
  · refine zz_aload_n (pc := 12) C dX0_append_12 rfl ?_
    refine zz_get (pc := 13) C in_X0_append_X0 (ci := 0) rfl 3 (by decide) (fl_X0_append_18) rfl dX0_append_13 zU_self rfl ?_
    refine zz_ldc (pc := 16) C (v := 65536) (by decide +kernel) dX0_append_16 ?_
    refine zz_icmp_ge (pc := 18) C (tgt := 55) dX0_append_18 (by decide) (fun hc18 => ?_) (fun hc18 => ?_)
    · exact absurd hc18 (nI_ge (a := cap) (b := 65536) (by omega) (by decide))
    · refine zz_aload_n (pc := 21) C dX0_append_21 rfl ?_
      refine zz_aload_n (pc := 22) C dX0_append_22 rfl ?_
      refine zz_get (pc := 23) C in_X0_append_X0 (ci := 0) rfl 0 (by decide) (fl_X0_append_11) rfl dX0_append_23 zU_self rfl ?_
      refine zz_iconst (pc := 26) C (v := 2) (by decide) dX0_append_26 ?_
      refine zz_aload_n (pc := 27) C dX0_append_27 rfl ?_
      refine zz_get (pc := 28) C in_X0_append_X0 (ci := 0) rfl 3 (by decide) (fl_X0_append_18) rfl dX0_append_28 zU_self rfl ?_
      refine zz_imul (pc := 31) C dX0_append_31 ?_
      refine zz_callS (pc := 32) C (c_J7_copyOf_59c91 l D (N := 2 * cap) (tg := tg) ((zU_ne hka).trans hk) (by omega) (by omega) (by omega)) gX0_append_J7_copyOf_59c91 rfl 2 (by decide +kernel) ⟨Nat.le_of_ble_eq_true rfl, Nat.le_of_ble_eq_true rfl⟩ rfl dX0_append_32 (by rw [show (2 : Int32) * nI cap = nI (2 * cap) from pk_mul 2 cap]; rfl) (Nat.le_of_ble_eq_true rfl) rfl ⟨(show 0 + 1 ≤ cap by omega), (show 0 + 2 * cap ≤ 4 * cap by omega)⟩ ?_
      rintro v G9 ⟨kb, rfl, hkb0, rfl⟩
      have hkba : kb ≠ a := fun q => by rw [q, zU_self] at hkb0; cases hkb0
      have hkb0 : G kb = none := (zU_ne hkba).symm.trans hkb0
      refine zz_put (pc := 35) C in_X0_append_X0 tyX0 tyX0_ok nmX0 (ci := 0) rfl 0 (by decide) fl_X0_append_11 rfl rfl dX0_append_35 ((zU_ne (Ne.symm hkba)).trans zU_self) rfl rfl (Nat.le_of_ble_eq_true rfl) ?_
      have hpkb : pa ≠ kb := fun q => by rw [← q, hp] at hkb0; cases hkb0
      refine zz_aload_n (pc := 38) C dX0_append_38 rfl ?_
      refine zz_aload_n (pc := 39) C dX0_append_39 rfl ?_
      refine zz_get (pc := 40) C in_X0_append_X0 (ci := 0) rfl 1 (by decide) (fl_X0_append_15) rfl dX0_append_40 zU_self rfl ?_
      refine zz_iconst (pc := 43) C (v := 2) (by decide) dX0_append_43 ?_
      refine zz_aload_n (pc := 44) C dX0_append_44 rfl ?_
      refine zz_get (pc := 45) C in_X0_append_X0 (ci := 0) rfl 3 (by decide) (fl_X0_append_18) rfl dX0_append_45 zU_self rfl ?_
      refine zz_imul (pc := 48) C dX0_append_48 ?_
      refine zz_callS (pc := 49) C (c_J7_copyOf_59c91 l D (N := 2 * cap) (tg := tg) ((zU_ne hpa).trans ((zU_ne hpkb).trans ((zU_ne hpa).trans hp))) (by omega) (by omega) (by omega)) gX0_append_J7_copyOf_59c91 rfl 2 (by decide +kernel) ⟨Nat.le_of_ble_eq_true rfl, Nat.le_of_ble_eq_true rfl⟩ rfl dX0_append_49 (by rw [show (2 : Int32) * nI cap = nI (2 * cap) from pk_mul 2 cap]; rfl) (Nat.le_of_ble_eq_true rfl) rfl ⟨(show 0 + 1 + 1 ≤ cap by omega), (show 0 + 2 * cap + 2 * cap ≤ 4 * cap by omega)⟩ ?_
      rintro v G9 ⟨pb, rfl, hpb0, rfl⟩
      have hpba : pb ≠ a := fun q => by rw [q, zU_self] at hpb0; cases hpb0
      have hpbk : pb ≠ kb := fun q => by rw [q, zU_ne hkba, zU_self] at hpb0; cases hpb0
      have hpb0 : G pb = none := by rw [zU_ne hpba, zU_ne hpbk, zU_ne hpba] at hpb0; exact hpb0
      refine zz_put (pc := 52) C in_X0_append_X0 tyX0 tyX0_ok nmX0 (ci := 0) rfl 1 (by decide) fl_X0_append_15 rfl rfl dX0_append_52 ((zU_ne (Ne.symm hpba)).trans zU_self) rfl rfl (Nat.le_of_ble_eq_true rfl) ?_
      refine zV.eqG (G' := zU (zU (zU (zU G a (tg, .inr (0, zQo ka pa h (nI cap) ck cp))) kb (tg, .inl (.int, 2 * cap, .inl (va_cpy fk (fun _ => 0) 0 0 cap)))) pb (tg, .inl (.int, 2 * cap, .inl (va_cpy fp (fun _ => 0) 0 0 cap)))) a (tg, .inr (0, zQo kb pb h (nI cap) ck cp))) ?_ ?_
      · funext q
        by_cases h1 : q = a
        · subst h1; simp only [zU_self]; rfl
        · simp only [zU, h1, if_false]
      · refine k55 (zU (zU (zU G a (tg, .inr (0, zQo ka pa h (nI cap) ck cp))) kb (tg, .inl (.int, 2 * cap, .inl (va_cpy fk (fun _ => 0) 0 0 cap)))) pb (tg, .inl (.int, 2 * cap, .inl (va_cpy fp (fun _ => 0) 0 0 cap)))) kb pb (2 * cap) (va_cpy fk (fun _ => 0) 0 0 cap) (va_cpy fp (fun _ => 0) 0 0 cap) hkba hpba (Ne.symm hpbk) (by omega) (by omega) ((zU_ne (Ne.symm hpbk)).trans zU_self) zU_self (fun i hi => ⟨by simp [va_cpy, hi], by simp [va_cpy, hi]⟩) rfl (fun q z h1 h2 h3 h4 => ?_) (fun q z h1 h2 h3 h4 => ?_) (fun q z h1 h2 h3 h4 => ?_)
        · have g1 : q ≠ kb := fun e9 => by rw [e9, hkb0] at h1; cases h1
          have g2 : q ≠ pb := fun e9 => by rw [e9, hpb0] at h1; cases h1
          rw [zU_ne g2, zU_ne g1, zU_ne h2]; exact h1
        · rw [h4, hkb0] at h1; cases h1
        · rw [h4, hpb0] at h1; cases h1
