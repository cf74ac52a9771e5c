/-! the law's loop, and its beginning -/
section ZLX
variable {p : Program} {l : Launch} {e : Env} {R : Room} {s : State} {m : MethodId} {args : Array Value} {below : List Frame} {meth : Method} {c : Code} {D : va_G} {A : Nat → Prop} {cells slots : Nat} {Q : State → Prop} {G : zG} {pc : Nat} {L : List (Option Value)} {st st0 : List Value}
variable {cc : ByteArray} {nL : Nat} {own : String} {Ts : List Cond} {ret : Option FieldType} {Post : Option Value → zG → Prop} {PX : String → Prop}
variable {y : MethodName} {bytes : ByteArray} {maxL n index : Nat} {ws ws' : List Cond} {rm : Room} {As : List Value} {b : Nat}
theorem zzx_callI (C : zC p s m args meth c D A cc nL own Ts ret) (h8 : zSt8 A s) (hM : zxMet D l y ws rm (.ref b :: As) G Post PX) (hT : GoodIn Ts ws) (hw : ws = Cond.code y bytes maxL none :: ws') (n : Nat) (hini : Cond.initialized y.cls ∈ Ts) (hlk : Cond.methodLink own index y ∈ Ts) (him : Cond.instanceMethod y ∈ Ts) (hy1 : y.name = "<init>")
    (hd : y.cls ≠ "java/lang/invoke/MethodHandle" ∧ y.cls ≠ "java/lang/invoke/VarHandle" ∧ (parseMethodDescriptor y.desc).map (fun d => d.parameters.length) = some n) (hR : rm.frames + 1 ≤ R.frames ∧ 8 + (maxL + 11) + rm.locals ≤ R.locals)
    (hn : As.length = n) (hdg : decode cc pc = .ok (.invokespecial index, 3)) (hst : st0 = As.reverse ++ .ref b :: st) (hcat : (st.map fun v => v.category).sum ≤ 8) (hlen : L.length = nL) (hroom : cells + rm.cells ≤ R.cells ∧ slots + rm.slots ≤ R.slots)
    (kx : ∀ E : String, PX E → zVX p l e R s m args below meth c D A (cells + rm.cells) (slots + rm.slots) Q G pc L st E)
    (kk : ∀ (v : Option Value) (G' : zG), Post v G' → zV p l e R s m args below meth c D A (cells + rm.cells) (slots + rm.slots) Q G' (pc + 3) L (v.toList ++ st)) : zV p l e R s m args below meth c D A cells slots Q G pc L st0 := by
  subst hst
  refine zzx_run (av := (Value.ref b :: As).toArray) C.2.2.1 (fun H locs ls hP hL hS hG => ?_) kx kk
  exact vx_runI (As := As) (rest := st) C.1 (hM H.size) (cwI (maxL := maxL) (bytes := bytes) n (fun w h => C.ts h) hT hw rfl rfl (C.ts hini) (C.ts hlk) (C.ts him) hy1 hd hR) ⟨zxPre.blind, fun U hU hW => ⟨rfl, zxPre_at C.2.1 hP h8 hS hG C.2.2.1 hU hW⟩⟩ rfl hn (hL.1.trans hlen) rfl (lv_room hcat) hdg hroom
end ZLX
def lwTo (k : Nat) : Nat := [172, 228, 284, 332, 423, 526, 606, 674, 710, 790, 881, 917, 985, 1033, 1101, 1173, 1217, 1230, 1293, 1349, 1405, 1461, 1517, 1573, 1629, 1692, 1705, 1718, 1774, 1830].getD k 0
def lwOf (k : Nat) : Int := [133, 189, 245, 293, 384, 487, 567, 635, 671, 751, 842, 878, 946, 994, 1062, 1134, 1178, 1191, 1254, 1310, 1366, 1422, 1478, 1534, 1590, 1653, 1666, 1679, 1735, 1791].getD k 0
theorem lw_off : ∀ k, k < 30 → (#[133, 189, 245, 293, 384, 487, 567, 635, 671, 751, 842, 878, 946, 994, 1062, 1134, 1178, 1191, 1254, 1310, 1366, 1422, 1478, 1534, 1590, 1653, 1666, 1679, 1735, 1791] : Array Int)[k]? = some (lwOf k) ∧ (39 : Int) + lwOf k = (lwTo k : Int) := by decide
theorem zLn4 {Ln k : Nat} (hLn : Ln ≤ 2048) (hk : k ≤ 3000) (h : ¬ (nI Ln - 4 < nI k)) : k + 4 ≤ Ln := by
  by_cases h4 : 4 ≤ Ln
  · have e : nI Ln - 4 = nI (Ln - 4) := by
      have e1 : nI Ln = nI (Ln - 4) + 4 := by
        have := nI_add (Ln - 4) 4
        rw [show Ln - 4 + 4 = Ln by omega] at this
        exact this.symm
      rw [e1, Int32.add_sub_cancel]
    rw [e] at h
    have := mt (nI_ltI (a := Ln - 4) (b := k) (by omega) (by omega)).mpr h
    omega
  · refine absurd ?_ h
    have h0 : (0 : Int32) ≤ nI k := nI_le (a := 0) (Nat.zero_le k) (by omega)
    have h1 : nI Ln - 4 < 0 := by
      rcases (show Ln = 0 ∨ Ln = 1 ∨ Ln = 2 ∨ Ln = 3 by omega) with rfl | rfl | rfl | rfl <;> decide
    exact Int32.lt_of_lt_of_le h1 h0
section ZLY
variable {p : Program} {l : Launch} {e : Env} {s : State} {m : MethodId} {below : List Frame} {meth : Method} {c : Code} {D : va_G} {b Ln : Nat} {xs : Nat → Int32}
theorem lw_sw {cells slots : Nat} {Q : State → Prop} {G : zG} {L : List (Option Value)} {x : Int32} (C : zC p s m #[Value.ref b] meth c D (lA s) cL_law 7 RL wsL_law (some .boolean)) (hd : zV p l e room_1 s m #[Value.ref b] below meth c D (lA s) cells slots Q G 1886 L []) (hc : ∀ k, k < 30 → zV p l e room_1 s m #[Value.ref b] below meth c D (lA s) cells slots Q G (lwTo k) L []) : zV p l e room_1 s m #[Value.ref b] below meth c D (lA s) cells slots Q G 39 L [.int x] := by
  by_cases h : x.toInt < 0 ∨ 29 < x.toInt
  · exact zz_tabOut (pc := 39) C (tgt := 1886) dL_law_39 h (by decide) hd
  · have h1 : ¬ x.toInt < 0 := fun z => h (Or.inl z)
    have h2 : ¬ 29 < x.toInt := fun z => h (Or.inr z)
    have hk : (x.toInt - 0).toNat < 30 := by omega
    obtain ⟨ho, ht⟩ := lw_off _ hk
    exact zz_tabIn (pc := 39) C dL_law_39 h1 h2 ho ht (hc _ hk)
set_option maxHeartbeats 4000000 in
set_option maxRecDepth 100000 in
theorem lw_loop (hl : l.stackTraces = false) (K : zLw p s m meth c D b Ln xs) (hLn : Ln ≤ 2048) {x y o : Nat} : ∀ (n t : Nat), t + n = 514 → 4 * t ≤ Ln + 3 → ∀ (G : zG) (σ : zS) (m0 cells slots : Nat), zInv G x y o σ m0 → cells ≤ 200 + 8 * t + zK m0 → slots ≤ 10000 + 48 * t + 4 * zK m0 →
    zV p l e room_1 s m #[Value.ref b] below meth c D (lA s) cells slots (lw_Z below #[Value.ref b] s) G 23 (lL b x y o (nI (4 * t))) [] := by
  have K' := K
  obtain ⟨C, hX, hbl, h8⟩ := K'
  have hbA : ¬ lA s b := Nat.not_le.mpr hbl
  intro n
  induction n with
  | zero =>
    intro t h1 h2
    omega
  | succ n ih =>
    intro t h1 h2 G σ m0 cells slots hI hc hs
    have z0 := zK_max m0
    refine zz_iload (pc := 23) C dL_law_23 rfl ?_
    refine zz_aload_n (pc := 25) C dL_law_25 rfl ?_
    refine zz_slen (pc := 26) C hX hbl hbA dL_law_26 ?_
    refine zz_iconst (pc := 27) C (v := 4) (by decide) dL_law_27 ?_
    refine zz_isub (pc := 28) C dL_law_28 ?_
    refine zz_icmp_gt (pc := 29) C (tgt := 1892) dL_law_29 (by decide) (fun _ => ?_) (fun hgt => ?_)
    · refine zz_iconst (pc := 1892) C (v := 1) (by decide) dL_law_1892 ?_
      intro H locs ls hP hS hG hL
      refine va_forget (fun q hq => hS.2.2 q hq) ?_
      refine W.widen (k := 601024) (n := 7293033) (by omega) (by omega) ?_
      exact lw_ret C.1.1 C.1.2.1 C.2.2.2.1 C.2.2.2.2 dL_law_1893
    · have h4 := zLn4 hLn (by omega) hgt
      have in0 : vp_in (nI (4 * t)) Ln := vp_in_nI (by omega) (by omega)
      have in1 : vp_in (nI (4 * t) + 1) Ln := by rw [nI_1]; exact vp_in_nI (by omega) (by omega)
      have in2 : vp_in (nI (4 * t) + 2) Ln := by rw [show nI (4 * t) + 2 = nI (4 * t + 2) from nI_add _ 2]; exact vp_in_nI (by omega) (by omega)
      have in3 : vp_in (nI (4 * t) + 3) Ln := by rw [show nI (4 * t) + 3 = nI (4 * t + 3) from nI_add _ 3]; exact vp_in_nI (by omega) (by omega)
      have next : ∀ (G' : zG) (σ' : zS) (m' cells' slots' : Nat), zInv G' x y o σ' m' → cells' ≤ 200 + 8 * (t + 1) + zK m' → slots' ≤ 10000 + 48 * (t + 1) + 4 * zK m' →
          zV p l e room_1 s m #[Value.ref b] below meth c D (lA s) cells' slots' (lw_Z below #[Value.ref b] s) G' 1886 (lL b x y o (nI (4 * t))) [] := by
        intro G' σ' m' cells' slots' hI' hc' hs'
        refine zz_iinc (pc := 1886) C dL_law_1886 rfl ?_
        rw [show nI (4 * t) + Int32.ofInt 4 = nI (4 * (t + 1)) from nI_add (4 * t) 4]
        refine zz_goto (pc := 1889) C (tgt := 23) dL_law_1889 (by decide) ?_
        refine zV.less (L' := lL b x y o (nI (4 * (t + 1)))) ⟨rfl, rfl, rfl, rfl, rfl, trivial⟩ ?_
        exact ih (t + 1) (by omega) (by omega) G' σ' m' cells' slots' hI' hc' hs'
      have hr1 : cells + (8 + (16384 - zK m0)) ≤ 601024 := by omega
      have hr2 : slots + (48 + 4 * (16384 - zK m0)) ≤ 7293033 := by omega
      have kk : ∀ (G' : zG) (σ' : zS) (m' : Nat), zInv G' x y o σ' m' → m0 ≤ m' → zV p l e room_1 s m #[Value.ref b] below meth c D (lA s) (cells + (8 + (zK m' - zK m0))) (slots + (48 + 4 * (zK m' - zK m0))) (lw_Z below #[Value.ref b] s) G' 1886 (lL b x y o (nI (4 * t))) [] := fun G' σ' m' hI' hm => by
        have hz := zK_mono hm
        exact next G' σ' m' _ _ hI' (by omega) (by omega)
      refine zz_aload_n (pc := 32) C dL_law_32 rfl ?_
      refine zz_iload (pc := 33) C dL_law_33 rfl ?_
      refine zz_sld (pc := 35) C hX hbl hbA in0 rfl dL_law_35 ?_
      refine zz_bipush (pc := 36) C (v := 31) (by decide) dL_law_36 ?_
      refine zz_iand (pc := 38) C dL_law_38 ?_
      refine lw_sw C (next G σ m0 cells slots hI (by omega) (by omega)) (fun k hk => ?_)
      match k, hk with
      | 0, _ => exact lw_c0 hl K hI in1 in2 in3 hr1 hr2 kk
      | 1, _ => exact lw_c1 hl K hI in1 in2 in3 hr1 hr2 kk
      | 2, _ => exact lw_c2 hl K hI in1 in2 in3 hr1 hr2 kk
      | 3, _ => exact lw_c3 hl K hI in1 in2 in3 hr1 hr2 kk
      | 4, _ => exact lw_c4 hl K hI in1 in2 in3 hr1 hr2 kk
      | 5, _ => exact lw_c5 hl K hI in1 in2 in3 hr1 hr2 kk
      | 6, _ => exact lw_c6 hl K hI in1 in2 in3 hr1 hr2 kk
      | 7, _ => exact lw_c7 hl K hI in1 in2 in3 hr1 hr2 kk
      | 8, _ => exact lw_c8 hl K hI in1 in2 in3 hr1 hr2 kk
      | 9, _ => exact lw_c9 hl K hI in1 in2 in3 hr1 hr2 kk
      | 10, _ => exact lw_c10 hl K hI in1 in2 in3 hr1 hr2 kk
      | 11, _ => exact lw_c11 hl K hI in1 in2 in3 hr1 hr2 kk
      | 12, _ => exact lw_c12 hl K hI in1 in2 in3 hr1 hr2 kk
      | 13, _ => exact lw_c13 hl K hI in1 in2 in3 hr1 hr2 kk
      | 14, _ => exact lw_c14 hl K hI in1 in2 in3 hr1 hr2 kk
      | 15, _ => exact lw_c15 hl K hI in1 in2 in3 hr1 hr2 kk
      | 16, _ => exact lw_c16 hl K hI in1 in2 in3 hr1 hr2 kk
      | 17, _ => exact lw_c17 hl K hI in1 in2 in3 hr1 hr2 kk
      | 18, _ => exact lw_c18 hl K hI in1 in2 in3 hr1 hr2 kk
      | 19, _ => exact lw_c19 hl K hI in1 in2 in3 hr1 hr2 kk
      | 20, _ => exact lw_c20 hl K hI in1 in2 in3 hr1 hr2 kk
      | 21, _ => exact lw_c21 hl K hI in1 in2 in3 hr1 hr2 kk
      | 22, _ => exact lw_c22 hl K hI in1 in2 in3 hr1 hr2 kk
      | 23, _ => exact lw_c23 hl K hI in1 in2 in3 hr1 hr2 kk
      | 24, _ => exact lw_c24 hl K hI in1 in2 in3 hr1 hr2 kk
      | 25, _ => exact lw_c25 hl K hI in1 in2 in3 hr1 hr2 kk
      | 26, _ => exact lw_c26 hl K hI in1 in2 in3 hr1 hr2 kk
      | 27, _ => exact lw_c27 hl K hI in1 in2 in3 hr1 hr2 kk
      | 28, _ => exact lw_c28 hl K hI in1 in2 in3 hr1 hr2 kk
      | 29, _ => exact lw_c29 hl K hI in1 in2 in3 hr1 hr2 kk
      | k + 30, hk => exact absurd hk (by omega)
end ZLY
