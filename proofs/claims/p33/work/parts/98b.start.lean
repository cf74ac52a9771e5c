/-! the law's entry -/
theorem zs_str1 : ∀ q ∈ zStrs, Cond.stringRef RX2 q.1 q.2 ∈ lw_tbl := by decide +kernel
theorem zs_str2 : ∀ q ∈ zStrs, Cond.exactly (.string RX2 q.1) "java/lang/String" ∈ flatC (Jvm.Cond.and given_1 narrow_1) := by decide +kernel
theorem zs_face : ∀ w ∈ zFaces, w ∈ lw_tbl := by decide +kernel
theorem zs_not : ∀ X ∈ zCls3, ∀ Y ∈ zCls3, X ≠ Y → Cond.not (.castable X Y) ∈ flatC (Jvm.Cond.and given_1 narrow_1) := by decide +kernel
theorem zs_u : Cond.laysStatic Bundle.tN "UNASSIGNED_STACK" Bundle.steD ∈ lw_tbl := by decide +kernel
theorem zs_v : Cond.laysStatic Bundle.tN "SUPPRESSED_SENTINEL" Bundle.listD ∈ lw_tbl := by decide +kernel
theorem zs_i : Cond.initialized Bundle.tN ∈ lw_tbl := by decide +kernel
theorem zs_r1 : Cond.isRef (.static Bundle.tN "UNASSIGNED_STACK" Bundle.steD) ∈ flatC (Jvm.Cond.and given_1 narrow_1) := by decide +kernel
theorem zs_r2 : Cond.isRef (.static Bundle.tN "SUPPRESSED_SENTINEL" Bundle.listD) ∈ flatC (Jvm.Cond.and given_1 narrow_1) := by decide +kernel
theorem zs_n : Cond.methodLinkNest RX2 17 yX0_init RX2 ∈ lw_tbl := by decide +kernel
theorem zs_o : Cond.arrayOver (.object "Signalpost$Proc") ∈ lw_tbl := by decide +kernel
theorem zs_a0 : Cond.instantiable RX0 6 ∈ lw_tbl := by decide +kernel
theorem zs_a1 : Cond.instantiable RX1 20 ∈ lw_tbl := by decide +kernel
theorem zs_a2 : Cond.instantiable RX2 4 ∈ lw_tbl := by decide +kernel
theorem zSt8_start {s : State} {args : Array Value} (hts : ∀ w ∈ lw_tbl, w.before args s = true) (hgv : (Jvm.Cond.and given_1 narrow_1).before args s = true) : zSt8 (lA s) s := by
  have hs := flat_of_before _ hgv
  have hA : ∀ a : Nat, a < s.heap.size → ¬ lA s a := fun a h => Nat.not_le.mpr h
  refine ⟨vx_Zqof (hts _ zs_u) (hts _ zs_i) (hs _ zs_r1) hA, vx_Zqof (hts _ zs_v) (hts _ zs_i) (hs _ zs_r2) hA, fun q hq => ?_, fun w hw => zFace_moved (zFaces_ok w hw) (Vm.Alike.refl s.vm) (hts _ (zs_face w hw)), fun X hX Y hY hn => va_Nc.of (hs _ (zs_not X hX Y hY hn)), va_Nw.of rfl (hts _ zs_n), va_AO.of (hts _ zs_o)⟩
  obtain ⟨a, c, cell, k, q1, -⟩ := Cond.exactly_spec (args := args) (first := s) (o := none) (s := s) (idx := []) (t := .string RX2 q.1) (cls := "java/lang/String") (hs _ (zs_str2 q hq))
  exact ⟨a, vk_R.of (hts _ (zs_str1 q hq)) q1⟩
theorem zDef2 : ∀ j, j < 4 → defaultValue (tyX2 j) = vp_V [.null, .null, .int 0, .int 0] j := fun j hj => by
  match j, hj with
  | 0, _ => rfl
  | 1, _ => rfl
  | 2, _ => rfl
  | 3, _ => rfl
  | n + 4, h => exact absurd h (by omega)
theorem kcl_2 : Cond.classLink RL 9 RX2 ∈ wsL_law := by decide +kernel
theorem kil_2 : Cond.initialized RX2 ∈ wsL_law := by decide +kernel
theorem kal_2 : Cond.instantiable RX2 4 ∈ wsL_law := by decide +kernel
theorem kml_2 : Cond.methodLink RL 228 yX2_init ∈ wsL_law := by decide +kernel
theorem khl_2 : Cond.instanceMethod yX2_init ∈ wsL_law := by decide +kernel
theorem zl_st {l : Launch} (h : l.flags = flags0) : l.stackTraces = false := by
  unfold Launch.stackTraces
  rw [h]
  decide +kernel
theorem zCnt_init : zCnt zInit 41 = 1 := by decide +kernel
set_option maxHeartbeats 4000000 in
set_option maxRecDepth 100000 in
theorem whole_start {p : Program} {e : Env} {s : State} {m : MethodId} {below : List Frame} {meth : Method} {c : Code} (l : Launch) (hflags : l.flags = flags0) {b L : Nat} {xs : Nat → Int32} (hL : L ≤ 260) (C0 : lw_At p s m meth c b L xs) : W p l e room_1 s m #[Value.ref b] below meth c s.heap [] 0 0 (lw_Z below #[Value.ref b] s) (entryFrame m ([Value.ref b] : List Value).toArray 4) := by
  obtain ⟨hx, hb, hr, hml, hown, hts, hX, hbl, hlocks, hgv⟩ := id C0
  have hl := zl_st hflags
  have hws : ∀ w ∈ wsL_law, w.before #[Value.ref b] s = true := fun w h => hts w (wsL_law_in w h)
  obtain ⟨c0, i0, k0⟩ := u_known (C := RX0) (T := TX0) (N := 6) (n := 6) hts inX0 (hts _ zs_a0)
  obtain ⟨c1, i1, k1⟩ := u_known (C := RX1) (T := TX1) (N := 20) (n := 20) hts inX1 (hts _ zs_a1)
  obtain ⟨c2, i2, k2⟩ := u_known (C := RX2) (T := TX2) (N := 4) (n := 4) hts inX2 (hts _ zs_a2)
  obtain ⟨dC, dI, hKc⟩ : ∃ (dC : Nat → ClassId) (dI : Nat → Nat → Nat), ∀ (k : Nat) (q : vw_C), vwCl[k]? = some q → u_Kn s q.1 q.2.1 q.2.2 (dC k) (dI k) := by
    refine ⟨fun k => if k = 0 then c0 else if k = 1 then c1 else c2, fun k => if k = 0 then i0 else if k = 1 then i1 else i2, ?_⟩
    intro k q hq
    match k, hq with
    | 0, hq => cases hq; exact k0
    | 1, hq => cases hq; exact k1
    | 2, hq => cases hq; exact k2
    | k + 3, hq => simp [vwCl] at hq
  have hK : va_K (dC, dI) vwCl [] s := ⟨hKc, fun k q h => by simp at h⟩
  have C : zC p s m #[Value.ref b] meth c (dC, dI) (lA s) cL_law 4 RL wsL_law (some .boolean) := ⟨⟨hx, hb, hml, hown, hws⟩, hK, fun q h => h, hr, hlocks⟩
  have h8 := zSt8_start hts hgv
  have K : zLw p s m meth c (dC, dI) b L xs := ⟨C, hX, hbl, h8⟩
  suffices h0 : zV p l e room_1 s m #[Value.ref b] below meth c (dC, dI) (lA s) 0 0 (lw_Z below #[Value.ref b] s) (fun _ => none) 0 [some (.ref b), none, none, none] [] by
    rw [lg_entry_eq]
    exact h0 s.heap [] _ (fun a t e9 h => by cases h) va_S.rf (fun a x h => by cases h) (zL_entry [.ref b] (n := 4) (Nat.le_of_ble_eq_true rfl))
  refine zz_new (pc := 0) C 1 inlX2 tyX2 tyX2_ok kcl_2 kal_2 kil_2 (ci := 2) rfl zDef2 (Nat.le_of_ble_eq_true rfl) (Nat.le_of_ble_eq_true rfl) dL_law_0 (fun x hxn _ => ?_)
  refine zz_dup (pc := 3) C dL_law_3 rfl ?_
  refine zzx_callI (pc := 4) C h8 (c_X2_init l (dC, dI) (B := fun _ => none) (x := x) (fun q k e9 h _ => by cases h) zU_self) gL_law_X2_init rfl 0 kil_2 kml_2 khl_2 rfl (by decide +kernel) ⟨Nat.le_of_ble_eq_true rfl, Nat.le_of_ble_eq_true rfl⟩ rfl dL_law_4 rfl (Nat.le_of_ble_eq_true rfl) rfl ⟨Nat.le_of_ble_eq_true rfl, Nat.le_of_ble_eq_true rfl⟩ (fun E hE => hE.elim) ?_
  rintro v G9 ⟨rfl, tb, ev, A, hC⟩
  have hI := zIv_init
  refine zz_astore_n (pc := 7) C dL_law_7 (Nat.le_of_ble_eq_true rfl) ?_
  refine zV.less (L' := [some (.ref b), some (.ref x), none, none]) ⟨rfl, rfl, trivial⟩ ?_
  refine zz_aload_n (pc := 8) C dL_law_8 rfl ?_
  refine zz_callS (pc := 9) C (c_L_areAll l (dC, dI) hC hI) gL_law_L_areAll rfl 1 (by decide +kernel) ⟨Nat.le_of_ble_eq_true rfl, Nat.le_of_ble_eq_true rfl⟩ rfl dL_law_9 rfl (Nat.le_of_ble_eq_true rfl) rfl ⟨Nat.le_of_ble_eq_true rfl, Nat.le_of_ble_eq_true rfl⟩ ?_
  rintro v G9 ⟨rfl, rfl⟩
  refine zz_if_eq (pc := 12) C (tgt := 35) dL_law_12 (by decide) (fun hc12 => ?_) (fun hc12 => ?_)
  · exact absurd hc12 (by decide)
  · refine zz_aload_n (pc := 15) C dL_law_15 rfl ?_
    refine zz_callV (pc := 16) C (c_clProcs l (dC, dI) hC) gL_law_X2_processes rfl 0 (by decide +kernel) ⟨Nat.le_of_ble_eq_true rfl, Nat.le_of_ble_eq_true rfl⟩ hC.x (ci := 2) rfl rfl rfl dL_law_16 rfl (Nat.le_of_ble_eq_true rfl) rfl ⟨Nat.le_of_ble_eq_true rfl, Nat.le_of_ble_eq_true rfl⟩ ?_
    rintro v G9 ⟨rfl, rfl⟩
    refine zz_iconst (pc := 19) C (v := 1) (by decide) dL_law_19 ?_
    refine zz_icmp_ne (pc := 20) C (tgt := 35) dL_law_20 (by decide) (fun hc20 => ?_) (fun hc20 => ?_)
    · exact absurd (by rw [zCnt_init]; rfl) hc20
    · refine zz_aload_n (pc := 23) C dL_law_23 rfl ?_
      refine zz_callV (pc := 24) C (c_X2_terminalSession l (dC, dI) hC) gL_law_X2_terminalSession rfl 0 (by decide +kernel) ⟨Nat.le_of_ble_eq_true rfl, Nat.le_of_ble_eq_true rfl⟩ hC.x (ci := 2) rfl rfl rfl dL_law_24 rfl (Nat.le_of_ble_eq_true rfl) rfl ⟨Nat.le_of_ble_eq_true rfl, Nat.le_of_ble_eq_true rfl⟩ ?_
      rintro v G9 ⟨rfl, rfl⟩
      refine zz_iconst (pc := 27) C (v := -1) (by decide) dL_law_27 ?_
      refine zz_icmp_ne (pc := 28) C (tgt := 35) dL_law_28 (by decide) (fun hc28 => ?_) (fun hc28 => ?_)
      · exact absurd rfl hc28
      · refine zz_iconst (pc := 31) C (v := 1) (by decide) dL_law_31 ?_
        refine zz_goto (pc := 32) C (tgt := 36) dL_law_32 (by decide) ?_
        refine zz_istore_n (pc := 36) C dL_law_36 (Nat.le_of_ble_eq_true rfl) ?_
        refine zV.less (L' := [some (.ref (b)), some (.ref (x)), some (.int (1)), none]) ⟨rfl, rfl, rfl, trivial⟩ ?_
        refine zz_iconst (pc := 37) C (v := 0) (by decide) dL_law_37 ?_
        refine zz_istore_n (pc := 38) C dL_law_38 (Nat.le_of_ble_eq_true rfl) ?_
        refine zV.less (L' := [some (.ref (b)), some (.ref (x)), some (.int (1)), some (.int (nI 0))]) ⟨rfl, rfl, rfl, rfl, trivial⟩ ?_
        exact lw_loop hl K hL 64 0 rfl _ zInit 0 _ _ ⟨tb, ev, A, hC⟩ hI (Nat.le_of_ble_eq_true rfl) (Nat.le_of_ble_eq_true rfl)
