/-! the law's methods around exit and send: events run -/
theorem zRx_c {m T f l f' l' k : Nat} (h : k ≤ 5) : 0 + (zRmX f l m T k).cells ≤ (zRmX f' l' m T 20).cells ∧ 0 + (zRmX f l m T k).slots ≤ (zRmX f' l' m T 20).slots := by
  have e1 : (zRmX f l m T k).cells = k + zW m T := rfl
  have e2 : (zRmX f l m T k).slots = 6 * k + 4 * zW m T := rfl
  have e3 : (zRmX f' l' m T 20).cells = 20 + zW m T := rfl
  have e4 : (zRmX f' l' m T 20).slots = 6 * 20 + 4 * zW m T := rfl
  rw [e1, e2, e3, e4]
  omega
theorem zRx_w5 {m T f l k : Nat} (h : k ≤ 5) : 0 + (zRmX f l m T k).cells ≤ 5 + zW m T ∧ 0 + (zRmX f l m T k).slots ≤ 60 + 4 * zW m T := by
  have e1 : (zRmX f l m T k).cells = k + zW m T := rfl
  have e2 : (zRmX f l m T k).slots = 6 * k + 4 * zW m T := rfl
  rw [e1, e2]
  omega
theorem zRx_r {m T f l : Nat} : 5 + zW m T ≤ (zRmX f l m T 20).cells ∧ 60 + 4 * zW m T ≤ (zRmX f l m T 20).slots := by
  have e3 : (zRmX f l m T 20).cells = 20 + zW m T := rfl
  have e4 : (zRmX f l m T 20).slots = 6 * 20 + 4 * zW m T := rfl
  rw [e3, e4]
  omega
theorem zNr {σ : zS} {k : Nat} (h : ¬ zNot σ k) : k ≠ 1 ∧ zRunN σ k := ⟨fun z => h (Or.inl z), Classical.not_not.mp (fun z => h (Or.inr z))⟩
theorem zN0 {b : Nat} (hb : b < 2 ^ 31) : (0 : Int32) ≤ nI b := (nI_leI (a := 0) (b := b) (by decide) hb).mpr (by omega)
theorem zW_00 {m : Nat} : zW m 0 = 0 := by
  show zK (max m 0) - zK m = 0
  rw [Nat.max_zero, Nat.sub_self]
theorem zRx_l {m f l k : Nat} {a : zS} {q : List zEv} (h : k ≤ 5) : 0 + (zRmX f l m (zCount 0 a q) k).cells ≤ 20 ∧ 0 + (zRmX f l m (zCount 0 a q) k).slots ≤ 120 := by
  have e1 : (zRmX f l m (zCount 0 a q) k).cells = k + zW m 0 := rfl
  have e2 : (zRmX f l m (zCount 0 a q) k).slots = 6 * k + 4 * zW m 0 := rfl
  rw [e1, e2, zW_00]
  omega
theorem zRx_l5 {m f l k : Nat} {a : zS} {q : List zEv} (h : k ≤ 5) : 0 + (zRmX f l m (zCount 0 a q) k).cells ≤ 5 ∧ 0 + (zRmX f l m (zCount 0 a q) k).slots ≤ 60 := by
  have e1 : (zRmX f l m (zCount 0 a q) k).cells = k + zW m 0 := rfl
  have e2 : (zRmX f l m (zCount 0 a q) k).slots = 6 * k + 4 * zW m 0 := rfl
  rw [e1, e2, zW_00]
  omega
theorem z256 {b : Nat} (h : 256 ≤ b) (hb : b < 2 ^ 31) : (256 : Int32) ≤ nI b := (nI_leI (a := 256) (b := b) (by decide) hb).mpr h
theorem z256n {b : Nat} (h : b < 256) : ¬ (256 : Int32) ≤ nI b := fun z => by
  have := (nI_leI (a := 256) (b := b) (by decide) (by omega)).mp z
  omega
theorem z255 {b : Nat} (h : 256 ≤ b) (hb : b < 2 ^ 31) : (255 : Int32) < nI b := (nI_ltI (a := 255) (b := b) (by decide) hb).mpr (by omega)
theorem z255n {b : Nat} (h : b < 256) : ¬ (nI b < 0 ∨ (255 : Int32) < nI b) := by
  rintro (z | z)
  · exact nI_nlt (a := b) (b := 0) (by omega) (by omega) z
  · have := (nI_ltI (a := 255) (b := b) (by decide) (by omega)).mp z
    omega
/-- what exit leaves behind -/
theorem zExited {σ : zS} (hI : zIv 0 σ []) {k e : Nat} {X : zS × List zEv} (h0 : σ 0 k ≠ 0) (hn : ¬ zNot σ k) (hX : X = zTerm (σ, []) k 0 (nI e)) (he : e < 2 ^ 31) (hr : zReady 8300 X) : zIv 0 (zFin 8300 X) [] ∧ zGone (zFin 8300 X) k ∧ (σ 1 k = 1 → zFin 8300 X 0 k = 0) := by
  have hp : k ≠ 0 ∧ k ≠ 1 := ⟨fun z => h0 (by rw [z]; exact hI.wf.z), (zNr hn).1⟩
  have h1 : zIv 0 X.1 X.2 := by rw [hX]; exact (hI.weak (e := k)).term hp h0 (Or.inl ⟨rfl, zN0 he⟩)
  have h2 := h1.fin hr
  have g0 : zGone X.1 k := Or.inr (by rw [hX]; show zT3 σ k 0 (nI e) 4 k ≠ 0; rw [zT3_4]; decide)
  have g1 : zGone (zFin 8300 X) k := g0.mo (zMo.go hr.1)
  refine ⟨h2, g1, fun z => ?_⟩
  have j1 : zMj σ X.1 := by rw [hX]; exact zMj.term (hI.wf.in h0).2 hp.2
  have j2 := (j1.tr (zMj.go (n := 8300) hr.1)).1 k z
  by_cases hx : zFin 8300 X 0 k = 0
  · exact hx
  · exact absurd (h2.2.2.2.2.1 k hx (g1.resolve_left hx) j2) List.not_mem_nil
theorem zEq1 {k : Nat} (hk : k < 41) (h : nI k = 1) : k = 1 := (nI_eq (a := k) (b := 1) (by omega) (by decide)).mp h
theorem zOrp {τ : zS} {k i : Nat} (hW : zWf τ) (hg : zGone τ k) (i0 : τ 0 i ≠ 0) (h1 : 1 ≤ k) (hk : k < 41) (hi : 2 ≤ i) (h : τ 1 i = nI k) : False := by
  obtain ⟨j, j1, j2, j3, j4, j5, j6⟩ := hW.par i0 (by omega)
  have e : j = k := (nI_eq (by omega) (by omega)).mp (j1.symm.trans h)
  rw [e] at j5 j6
  exact hg.elim j5 (fun z => z j6)
theorem zQ1 {σ : zS} {k : Nat} {w : Int32} (hI : zIv 0 σ []) (h0 : σ 0 k ≠ 0) (hn : ¬ zNot σ k) (hw : w = σ 1 k) (h : ¬ (1 : Int32) < w) : σ 1 k = 1 := by
  obtain ⟨j, j1, j2, j3, j4, j5, j6⟩ := hI.wf.par h0 (zNr hn).1
  rw [hw, j1] at h
  have hj : j = 1 := by
    by_cases z : j = 1
    · exact z
    · exact absurd ((nI_ltI (a := 1) (b := j) (by decide) (by omega)).mpr (by omega)) h
  rw [j1, hj]
  rfl
set_option maxHeartbeats 4000000 in
set_option maxRecDepth 100000 in
theorem c_L_isExited_w (l : Launch) (hl : l.stackTraces = false) (D : va_G) {B G : zG} {x tb ev : Nat} {A : Nat → Nat} {σ : zS} {m0 : Nat} (hC : zCl B x tb ev A σ [] 0 m0 G) {k9 e9 : Nat} (hI : zIv 0 σ []) (h1 : 1 ≤ k9) (hk : k9 < 41) (h0 : σ 0 k9 ≠ 0) (hc9 : 256 ≤ e9) (he : e9 < 260) : zxMet D l yL_isExited wsL_isExited ({ frames := 12, cells := 20, slots := 120, locals := 340 } : Room) [.ref x, .int (nI k9), .int (nI e9)] G (fun v G9 => v = some (.int 1) ∧ zLq B x σ m0 G9) (fun _ => False) := by
  refine zxMet_of (cc := cL_isExited) (maxL := 9) (ret := (some .boolean)) (by decide) rfl (Nat.le_of_ble_eq_true rfl) ?_
  intro p e s m args below meth c C hnx h8
  have hW := hI.wf
  have hTH : zE3 (¬ zHere σ (nI k9)) (nI e9 < 0 ∨ (255 : Int32) < nI e9) (zNot σ (pn (nI k9))) = 2 := zE3_2 (fun z => z (zHere_n h1 hk h0)) (Or.inr (z255 hc9 (by omega)))
  have K47 : ∀ w : Int32, (k9 ≠ 1 → w = σ 1 k9) → zV p l e ({ frames := 12, cells := 20, slots := 120, locals := 340 } : Room) s m args below meth c D (zA G s.heap.size) 0 0 (zxZ below D G (fun v G9 => v = some (.int 1) ∧ zLq B x σ m0 G9) (fun _ => False) args s ({ frames := 12, cells := 20, slots := 120, locals := 340 } : Room)) G 47 [some (.ref x), some (.int (nI k9)), some (.int (nI e9)), some (.int (zb (¬ zNot σ k9))), some (.int (0)), none, none, none, none] [.int w] := by
    intro w hw
    refine zz_istore (pc := 47) C dL_isExited_47 (Nat.le_of_ble_eq_true rfl) ?_
    refine zV.less (L' := [some (.ref (x)), some (.int (nI k9)), some (.int (nI e9)), some (.int (zb (¬ zNot σ k9))), some (.int (0)), some (.int (w)), none, none, none]) ⟨rfl, rfl, rfl, rfl, rfl, rfl, trivial⟩ ?_
    refine zz_aload_n (pc := 49) C dL_isExited_49 rfl ?_
    refine zz_iload_n (pc := 50) C dL_isExited_50 rfl ?_
    refine zz_iload_n (pc := 51) C dL_isExited_51 rfl ?_
    refine zzx_callSW (pc := 52) C h8 ((c_L_exits l hl D (x9 := nI k9) (c9 := nI e9) (X := zTerm (σ, []) (pn (nI k9)) 0 (nI e9)) (N := 0) hC hW rfl (fun z => absurd (hTH.symm.trans z) (by decide))).imp (fun _ _ z => z.elim (fun y => absurd (hTH.symm.trans y.1) (by decide)) (fun z => z.elim (fun y => absurd (hTH.symm.trans y.1) (by decide)) (fun z => z.elim id (fun z => absurd (hTH.symm.trans z.1) (by decide))))) (fun _ z => z)) gL_isExited_L_exits rfl 3 (by decide +kernel) ⟨Nat.le_of_ble_eq_true rfl, Nat.le_of_ble_eq_true rfl⟩ rfl dL_isExited_52 rfl (Nat.le_of_ble_eq_true rfl) rfl (zRx_l (by decide)) (fun E hE => hE.elim) ?_
    rintro v G9 ⟨_, rfl, rfl⟩
    refine zV.widen (k := 5) (n := 60) (zRx_l5 (by decide)).1 (zRx_l5 (by decide)).2 ?_
    refine zz_istore (pc := 55) C dL_isExited_55 (Nat.le_of_ble_eq_true rfl) ?_
    refine zV.less (L' := [some (.ref (x)), some (.int (nI k9)), some (.int (nI e9)), some (.int (zb (¬ zNot σ k9))), some (.int (0)), some (.int (w)), some (.int (-20)), none, none]) ⟨rfl, rfl, rfl, rfl, rfl, rfl, rfl, trivial⟩ ?_
    refine zz_iload_n (pc := 57) C dL_isExited_57 rfl ?_
    refine zz_if_eq (pc := 58) C (tgt := 66) dL_isExited_58 (by decide) (fun hc58 => ?_) (fun hc58 => ?_)
    · refine zz_iload (pc := 66) C dL_isExited_66 rfl ?_
      refine zz_iload (pc := 68) C dL_isExited_68 rfl ?_
      refine zz_if_eq (pc := 70) C (tgt := 78) dL_isExited_70 (by decide) (fun hc70 => ?_) (fun hc70 => ?_)
      · refine zz_bipush (pc := 78) C (v := -20) (by decide) dL_isExited_78 ?_
        refine zz_icmp_ne (pc := 80) C (tgt := 87) dL_isExited_80 (by decide) (fun hc80 => ?_) (fun hc80 => ?_)
        · exact absurd rfl hc80
        · refine zz_iconst (pc := 83) C (v := 1) (by decide) dL_isExited_83 ?_
          refine zz_goto (pc := 84) C (tgt := 88) dL_isExited_84 (by decide) ?_
          exact zzx_ret (zz_ireturn (pc := 88) C dL_isExited_88 (by first | rfl | exact zb_nar) (Nat.le_of_ble_eq_true rfl) (Nat.le_of_ble_eq_true rfl) ⟨rfl, ⟨tb, ev, A, hC⟩⟩)
      · exact absurd rfl hc70
    · refine zz_iload (pc := 61) C dL_isExited_61 rfl ?_
      refine zz_if_ne (pc := 63) C (tgt := 89) dL_isExited_63 (by decide) (fun hc63 => ?_) (fun hc63 => ?_)
      · exact absurd rfl hc63
      · refine zz_iload (pc := 66) C dL_isExited_66 rfl ?_
        refine zz_iload (pc := 68) C dL_isExited_68 rfl ?_
        refine zz_if_eq (pc := 70) C (tgt := 78) dL_isExited_70 (by decide) (fun hc70 => ?_) (fun hc70 => ?_)
        · refine zz_bipush (pc := 78) C (v := -20) (by decide) dL_isExited_78 ?_
          refine zz_icmp_ne (pc := 80) C (tgt := 87) dL_isExited_80 (by decide) (fun hc80 => ?_) (fun hc80 => ?_)
          · exact absurd rfl hc80
          · refine zz_iconst (pc := 83) C (v := 1) (by decide) dL_isExited_83 ?_
            refine zz_goto (pc := 84) C (tgt := 88) dL_isExited_84 (by decide) ?_
            exact zzx_ret (zz_ireturn (pc := 88) C dL_isExited_88 (by first | rfl | exact zb_nar) (Nat.le_of_ble_eq_true rfl) (Nat.le_of_ble_eq_true rfl) ⟨rfl, ⟨tb, ev, A, hC⟩⟩)
        · exact absurd rfl hc70
  have K18 : zV p l e ({ frames := 12, cells := 20, slots := 120, locals := 340 } : Room) s m args below meth c D (zA G s.heap.size) 0 0 (zxZ below D G (fun v G9 => v = some (.int 1) ∧ zLq B x σ m0 G9) (fun _ => False) args s ({ frames := 12, cells := 20, slots := 120, locals := 340 } : Room)) G 18 [some (.ref x), some (.int (nI k9)), some (.int (nI e9)), none, none, none, none, none, none] [.int (zb (¬ zNot σ k9))] := by
    refine zz_istore_n (pc := 18) C dL_isExited_18 (Nat.le_of_ble_eq_true rfl) ?_
    refine zV.less (L' := [some (.ref (x)), some (.int (nI k9)), some (.int (nI e9)), some (.int (zb (¬ zNot σ k9))), none, none, none, none, none]) ⟨rfl, rfl, rfl, rfl, trivial⟩ ?_
    refine zz_iload_n (pc := 19) C dL_isExited_19 rfl ?_
    refine zz_sipush (pc := 20) C (v := 256) (by decide) dL_isExited_20 ?_
    refine zz_icmp_ge (pc := 23) C (tgt := 30) dL_isExited_23 (by decide) (fun hc23 => ?_) (fun hc23 => ?_)
    · refine zz_iconst (pc := 30) C (v := 0) (by decide) dL_isExited_30 ?_
      refine zz_istore (pc := 31) C dL_isExited_31 (Nat.le_of_ble_eq_true rfl) ?_
      refine zV.less (L' := [some (.ref (x)), some (.int (nI k9)), some (.int (nI e9)), some (.int (zb (¬ zNot σ k9))), some (.int (0)), none, none, none, none]) ⟨rfl, rfl, rfl, rfl, rfl, trivial⟩ ?_
      refine zz_iload_n (pc := 33) C dL_isExited_33 rfl ?_
      refine zz_iconst (pc := 34) C (v := 1) (by decide) dL_isExited_34 ?_
      refine zz_icmp_ne (pc := 35) C (tgt := 42) dL_isExited_35 (by decide) (fun hc35 => ?_) (fun hc35 => ?_)
      · refine zz_aload_n (pc := 42) C dL_isExited_42 rfl ?_
        refine zz_iload_n (pc := 43) C dL_isExited_43 rfl ?_
        refine zz_callV (pc := 44) C (q_parent l D hC hW h1 hk h0) gL_isExited_X2_parent rfl 1 (by decide +kernel) ⟨Nat.le_of_ble_eq_true rfl, Nat.le_of_ble_eq_true rfl⟩ hC.x (ci := 2) rfl rfl rfl dL_isExited_44 rfl (Nat.le_of_ble_eq_true rfl) rfl ⟨Nat.le_of_ble_eq_true rfl, Nat.le_of_ble_eq_true rfl⟩ ?_
        rintro v G9 ⟨rfl, rfl⟩
        exact zV.less (L' := [some (.ref x), some (.int (nI k9)), some (.int (nI e9)), some (.int (zb (¬ zNot σ k9))), some (.int (0)), none, none, none, none]) ⟨rfl, rfl, rfl, rfl, rfl, trivial⟩ (K47 _ (fun z => rfl))
      · refine zz_iconst (pc := 38) C (v := 1) (by decide) dL_isExited_38 ?_
        refine zz_goto (pc := 39) C (tgt := 47) dL_isExited_39 (by decide) ?_
        exact zV.less (L' := [some (.ref x), some (.int (nI k9)), some (.int (nI e9)), some (.int (zb (¬ zNot σ k9))), some (.int (0)), none, none, none, none]) ⟨rfl, rfl, rfl, rfl, rfl, trivial⟩ (K47 _ (fun z => absurd (zEq1 hk (Classical.not_not.mp hc35)) z))
    · exact absurd (z256 hc9 (by omega)) hc23
  refine zz_iload_n (pc := 0) C dL_isExited_0 rfl ?_
  refine zz_iconst (pc := 1) C (v := 1) (by decide) dL_isExited_1 ?_
  refine zz_icmp_le (pc := 2) C (tgt := 17) dL_isExited_2 (by decide) (fun hc2 => ?_) (fun hc2 => ?_)
  · refine zz_iconst (pc := 17) C (v := 0) (by decide) dL_isExited_17 ?_
    exact zV.less (L' := [some (.ref x), some (.int (nI k9)), some (.int (nI e9)), none, none, none, none, none, none]) ⟨rfl, rfl, rfl, trivial⟩ (zV.topK K18 ((zb_f (fun z => z (Or.inl (zLe1 h1 hk hc2)))).symm))
  · refine zz_aload_n (pc := 5) C dL_isExited_5 rfl ?_
    refine zz_iload_n (pc := 6) C dL_isExited_6 rfl ?_
    refine zz_callV (pc := 7) C (q_state l D hC h1 hk h0) gL_isExited_X2_state rfl 1 (by decide +kernel) ⟨Nat.le_of_ble_eq_true rfl, Nat.le_of_ble_eq_true rfl⟩ hC.x (ci := 2) rfl rfl rfl dL_isExited_7 rfl (Nat.le_of_ble_eq_true rfl) rfl ⟨Nat.le_of_ble_eq_true rfl, Nat.le_of_ble_eq_true rfl⟩ ?_
    rintro v G9 ⟨rfl, rfl⟩
    refine zz_if_ne (pc := 10) C (tgt := 17) dL_isExited_10 (by decide) (fun hc10 => ?_) (fun hc10 => ?_)
    · refine zz_iconst (pc := 17) C (v := 0) (by decide) dL_isExited_17 ?_
      exact zV.less (L' := [some (.ref x), some (.int (nI k9)), some (.int (nI e9)), none, none, none, none, none, none]) ⟨rfl, rfl, rfl, trivial⟩ (zV.topK K18 ((zb_f (fun z => z (Or.inr (fun y => hc10 (zCon_0.mpr y))))).symm))
    · refine zz_iconst (pc := 13) C (v := 1) (by decide) dL_isExited_13 ?_
      refine zz_goto (pc := 14) C (tgt := 18) dL_isExited_14 (by decide) ?_
      exact zV.less (L' := [some (.ref x), some (.int (nI k9)), some (.int (nI e9)), none, none, none, none, none, none]) ⟨rfl, rfl, rfl, trivial⟩ (zV.topK K18 ((zb_t (show ¬ zNot σ k9 from fun z => z.elim (fun y => hc2 (by rw [y]; decide)) (fun y => y (zCon_0.mp (Classical.not_not.mp hc10))))).symm))
set_option maxHeartbeats 4000000 in
set_option maxRecDepth 100000 in
theorem c_L_isExited_n (l : Launch) (hl : l.stackTraces = false) (D : va_G) {B G : zG} {x tb ev : Nat} {A : Nat → Nat} {σ : zS} {m0 : Nat} (hC : zCl B x tb ev A σ [] 0 m0 G) {k9 e9 : Nat} (hI : zIv 0 σ []) (h1 : 1 ≤ k9) (hk : k9 < 41) (h0 : σ 0 k9 ≠ 0) (hc9 : e9 < 256) (hn : zNot σ k9) : zxMet D l yL_isExited wsL_isExited ({ frames := 12, cells := 20, slots := 120, locals := 340 } : Room) [.ref x, .int (nI k9), .int (nI e9)] G (fun v G9 => v = some (.int 1) ∧ zLq B x σ m0 G9) (fun _ => False) := by
  refine zxMet_of (cc := cL_isExited) (maxL := 9) (ret := (some .boolean)) (by decide) rfl (Nat.le_of_ble_eq_true rfl) ?_
  intro p e s m args below meth c C hnx h8
  have hW := hI.wf
  have hTH : zE3 (¬ zHere σ (nI k9)) (nI e9 < 0 ∨ (255 : Int32) < nI e9) (zNot σ (pn (nI k9))) = 3 := zE3_3 (fun z => z (zHere_n h1 hk h0)) (z255n hc9) (by rw [pnn hk]; exact hn)
  have K47 : ∀ w : Int32, (k9 ≠ 1 → w = σ 1 k9) → zV p l e ({ frames := 12, cells := 20, slots := 120, locals := 340 } : Room) s m args below meth c D (zA G s.heap.size) 0 0 (zxZ below D G (fun v G9 => v = some (.int 1) ∧ zLq B x σ m0 G9) (fun _ => False) args s ({ frames := 12, cells := 20, slots := 120, locals := 340 } : Room)) G 47 [some (.ref x), some (.int (nI k9)), some (.int (nI e9)), some (.int (zb (¬ zNot σ k9))), some (.int (1)), none, none, none, none] [.int w] := by
    intro w hw
    refine zz_istore (pc := 47) C dL_isExited_47 (Nat.le_of_ble_eq_true rfl) ?_
    refine zV.less (L' := [some (.ref (x)), some (.int (nI k9)), some (.int (nI e9)), some (.int (zb (¬ zNot σ k9))), some (.int (1)), some (.int (w)), none, none, none]) ⟨rfl, rfl, rfl, rfl, rfl, rfl, trivial⟩ ?_
    refine zz_aload_n (pc := 49) C dL_isExited_49 rfl ?_
    refine zz_iload_n (pc := 50) C dL_isExited_50 rfl ?_
    refine zz_iload_n (pc := 51) C dL_isExited_51 rfl ?_
    refine zzx_callSW (pc := 52) C h8 ((c_L_exits l hl D (x9 := nI k9) (c9 := nI e9) (X := zTerm (σ, []) (pn (nI k9)) 0 (nI e9)) (N := 0) hC hW rfl (fun z => absurd (hTH.symm.trans z) (by decide))).imp (fun _ _ z => z.elim (fun y => absurd (hTH.symm.trans y.1) (by decide)) (fun z => z.elim (fun y => absurd (hTH.symm.trans y.1) (by decide)) (fun z => z.elim (fun y => absurd (hTH.symm.trans y.1) (by decide)) (fun z => z)))) (fun _ z => z)) gL_isExited_L_exits rfl 3 (by decide +kernel) ⟨Nat.le_of_ble_eq_true rfl, Nat.le_of_ble_eq_true rfl⟩ rfl dL_isExited_52 rfl (Nat.le_of_ble_eq_true rfl) rfl (zRx_l (by decide)) (fun E hE => hE.elim) ?_
    rintro v G9 ⟨_, rfl, rfl⟩
    refine zV.widen (k := 5) (n := 60) (zRx_l5 (by decide)).1 (zRx_l5 (by decide)).2 ?_
    refine zz_istore (pc := 55) C dL_isExited_55 (Nat.le_of_ble_eq_true rfl) ?_
    refine zV.less (L' := [some (.ref (x)), some (.int (nI k9)), some (.int (nI e9)), some (.int (zb (¬ zNot σ k9))), some (.int (1)), some (.int (w)), some (.int (-10)), none, none]) ⟨rfl, rfl, rfl, rfl, rfl, rfl, rfl, trivial⟩ ?_
    refine zz_iload_n (pc := 57) C dL_isExited_57 rfl ?_
    refine zz_if_eq (pc := 58) C (tgt := 66) dL_isExited_58 (by decide) (fun hc58 => ?_) (fun hc58 => ?_)
    · refine zz_iload (pc := 66) C dL_isExited_66 rfl ?_
      refine zz_iload (pc := 68) C dL_isExited_68 rfl ?_
      refine zz_if_eq (pc := 70) C (tgt := 78) dL_isExited_70 (by decide) (fun hc70 => ?_) (fun hc70 => ?_)
      · exact absurd hc70 (by decide)
      · refine zz_bipush (pc := 73) C (v := -10) (by decide) dL_isExited_73 ?_
        refine zz_goto (pc := 75) C (tgt := 80) dL_isExited_75 (by decide) ?_
        refine zz_icmp_ne (pc := 80) C (tgt := 87) dL_isExited_80 (by decide) (fun hc80 => ?_) (fun hc80 => ?_)
        · exact absurd rfl hc80
        · refine zz_iconst (pc := 83) C (v := 1) (by decide) dL_isExited_83 ?_
          refine zz_goto (pc := 84) C (tgt := 88) dL_isExited_84 (by decide) ?_
          exact zzx_ret (zz_ireturn (pc := 88) C dL_isExited_88 (by first | rfl | exact zb_nar) (Nat.le_of_ble_eq_true rfl) (Nat.le_of_ble_eq_true rfl) ⟨rfl, ⟨tb, ev, A, hC⟩⟩)
    · exact False.elim (zbp hc58 hn)
  have K18 : zV p l e ({ frames := 12, cells := 20, slots := 120, locals := 340 } : Room) s m args below meth c D (zA G s.heap.size) 0 0 (zxZ below D G (fun v G9 => v = some (.int 1) ∧ zLq B x σ m0 G9) (fun _ => False) args s ({ frames := 12, cells := 20, slots := 120, locals := 340 } : Room)) G 18 [some (.ref x), some (.int (nI k9)), some (.int (nI e9)), none, none, none, none, none, none] [.int (zb (¬ zNot σ k9))] := by
    refine zz_istore_n (pc := 18) C dL_isExited_18 (Nat.le_of_ble_eq_true rfl) ?_
    refine zV.less (L' := [some (.ref (x)), some (.int (nI k9)), some (.int (nI e9)), some (.int (zb (¬ zNot σ k9))), none, none, none, none, none]) ⟨rfl, rfl, rfl, rfl, trivial⟩ ?_
    refine zz_iload_n (pc := 19) C dL_isExited_19 rfl ?_
    refine zz_sipush (pc := 20) C (v := 256) (by decide) dL_isExited_20 ?_
    refine zz_icmp_ge (pc := 23) C (tgt := 30) dL_isExited_23 (by decide) (fun hc23 => ?_) (fun hc23 => ?_)
    · exact absurd hc23 (z256n hc9)
    · refine zz_iconst (pc := 26) C (v := 1) (by decide) dL_isExited_26 ?_
      refine zz_goto (pc := 27) C (tgt := 31) dL_isExited_27 (by decide) ?_
      refine zz_istore (pc := 31) C dL_isExited_31 (Nat.le_of_ble_eq_true rfl) ?_
      refine zV.less (L' := [some (.ref (x)), some (.int (nI k9)), some (.int (nI e9)), some (.int (zb (¬ zNot σ k9))), some (.int (1)), none, none, none, none]) ⟨rfl, rfl, rfl, rfl, rfl, trivial⟩ ?_
      refine zz_iload_n (pc := 33) C dL_isExited_33 rfl ?_
      refine zz_iconst (pc := 34) C (v := 1) (by decide) dL_isExited_34 ?_
      refine zz_icmp_ne (pc := 35) C (tgt := 42) dL_isExited_35 (by decide) (fun hc35 => ?_) (fun hc35 => ?_)
      · refine zz_aload_n (pc := 42) C dL_isExited_42 rfl ?_
        refine zz_iload_n (pc := 43) C dL_isExited_43 rfl ?_
        refine zz_callV (pc := 44) C (q_parent l D hC hW h1 hk h0) gL_isExited_X2_parent rfl 1 (by decide +kernel) ⟨Nat.le_of_ble_eq_true rfl, Nat.le_of_ble_eq_true rfl⟩ hC.x (ci := 2) rfl rfl rfl dL_isExited_44 rfl (Nat.le_of_ble_eq_true rfl) rfl ⟨Nat.le_of_ble_eq_true rfl, Nat.le_of_ble_eq_true rfl⟩ ?_
        rintro v G9 ⟨rfl, rfl⟩
        exact zV.less (L' := [some (.ref x), some (.int (nI k9)), some (.int (nI e9)), some (.int (zb (¬ zNot σ k9))), some (.int (1)), none, none, none, none]) ⟨rfl, rfl, rfl, rfl, rfl, trivial⟩ (K47 _ (fun z => rfl))
      · refine zz_iconst (pc := 38) C (v := 1) (by decide) dL_isExited_38 ?_
        refine zz_goto (pc := 39) C (tgt := 47) dL_isExited_39 (by decide) ?_
        exact zV.less (L' := [some (.ref x), some (.int (nI k9)), some (.int (nI e9)), some (.int (zb (¬ zNot σ k9))), some (.int (1)), none, none, none, none]) ⟨rfl, rfl, rfl, rfl, rfl, trivial⟩ (K47 _ (fun z => absurd (zEq1 hk (Classical.not_not.mp hc35)) z))
  refine zz_iload_n (pc := 0) C dL_isExited_0 rfl ?_
  refine zz_iconst (pc := 1) C (v := 1) (by decide) dL_isExited_1 ?_
  refine zz_icmp_le (pc := 2) C (tgt := 17) dL_isExited_2 (by decide) (fun hc2 => ?_) (fun hc2 => ?_)
  · refine zz_iconst (pc := 17) C (v := 0) (by decide) dL_isExited_17 ?_
    exact zV.less (L' := [some (.ref x), some (.int (nI k9)), some (.int (nI e9)), none, none, none, none, none, none]) ⟨rfl, rfl, rfl, trivial⟩ (zV.topK K18 ((zb_f (fun z => z (Or.inl (zLe1 h1 hk hc2)))).symm))
  · refine zz_aload_n (pc := 5) C dL_isExited_5 rfl ?_
    refine zz_iload_n (pc := 6) C dL_isExited_6 rfl ?_
    refine zz_callV (pc := 7) C (q_state l D hC h1 hk h0) gL_isExited_X2_state rfl 1 (by decide +kernel) ⟨Nat.le_of_ble_eq_true rfl, Nat.le_of_ble_eq_true rfl⟩ hC.x (ci := 2) rfl rfl rfl dL_isExited_7 rfl (Nat.le_of_ble_eq_true rfl) rfl ⟨Nat.le_of_ble_eq_true rfl, Nat.le_of_ble_eq_true rfl⟩ ?_
    rintro v G9 ⟨rfl, rfl⟩
    refine zz_if_ne (pc := 10) C (tgt := 17) dL_isExited_10 (by decide) (fun hc10 => ?_) (fun hc10 => ?_)
    · refine zz_iconst (pc := 17) C (v := 0) (by decide) dL_isExited_17 ?_
      exact zV.less (L' := [some (.ref x), some (.int (nI k9)), some (.int (nI e9)), none, none, none, none, none, none]) ⟨rfl, rfl, rfl, trivial⟩ (zV.topK K18 ((zb_f (fun z => z (Or.inr (fun y => hc10 (zCon_0.mpr y))))).symm))
    · refine zz_iconst (pc := 13) C (v := 1) (by decide) dL_isExited_13 ?_
      refine zz_goto (pc := 14) C (tgt := 18) dL_isExited_14 (by decide) ?_
      exact zV.less (L' := [some (.ref x), some (.int (nI k9)), some (.int (nI e9)), none, none, none, none, none, none]) ⟨rfl, rfl, rfl, trivial⟩ (zV.topK K18 ((zb_t (show ¬ zNot σ k9 from fun z => z.elim (fun y => hc2 (by rw [y]; decide)) (fun y => y (zCon_0.mp (Classical.not_not.mp hc10))))).symm))
set_option maxHeartbeats 4000000 in
set_option maxRecDepth 100000 in
theorem c_L_isExited_y (l : Launch) (hl : l.stackTraces = false) (D : va_G) {B G : zG} {x tb ev : Nat} {A : Nat → Nat} {σ : zS} {m0 : Nat} (hC : zCl B x tb ev A σ [] 0 m0 G) {k9 e9 : Nat} {X : zS × List zEv} (hI : zIv 0 σ []) (h1 : 1 ≤ k9) (hk : k9 < 41) (h0 : σ 0 k9 ≠ 0) (hc9 : e9 < 256) (hn : ¬ zNot σ k9) (hX : X = zTerm (σ, []) k9 0 (nI e9)) (hr : zReady 8300 X) : zxMet D l yL_isExited wsL_isExited (zRmX 12 340 m0 (zCount 8300 X.1 X.2) 20) [.ref x, .int (nI k9), .int (nI e9)] G (fun v G9 => v = some (.int 1) ∧ zLq B x (zFin 8300 X) (max m0 (zCount 8300 X.1 X.2)) G9) (fun _ => False) := by
  refine zxMet_of (cc := cL_isExited) (maxL := 9) (ret := (some .boolean)) (by decide) rfl (Nat.le_of_ble_eq_true rfl) ?_
  intro p e s m args below meth c C hnx h8
  have hW := hI.wf
  have hTH : zE3 (¬ zHere σ (nI k9)) (nI e9 < 0 ∨ (255 : Int32) < nI e9) (zNot σ (pn (nI k9))) = 0 := zE3_0 (fun z => z (zHere_n h1 hk h0)) (z255n hc9) (by rw [pnn hk]; exact hn)
  obtain ⟨hI1, hg, hq⟩ := zExited hI h0 hn hX (by omega) hr
  have hW1 := hI1.wf
  have hrc := zRx_r (m := m0) (T := zCount 8300 X.1 X.2) (f := 12) (l := 340)
  generalize hτ : zFin 8300 X = τ at hI1 hg hq hW1 ⊢
  have K47 : ∀ w : Int32, (k9 ≠ 1 → w = σ 1 k9) → zV p l e (zRmX 12 340 m0 (zCount 8300 X.1 X.2) 20) s m args below meth c D (zA G s.heap.size) 0 0 (zxZ below D G (fun v G9 => v = some (.int 1) ∧ zLq B x τ (max m0 (zCount 8300 X.1 X.2)) G9) (fun _ => False) args s (zRmX 12 340 m0 (zCount 8300 X.1 X.2) 20)) G 47 [some (.ref x), some (.int (nI k9)), some (.int (nI e9)), some (.int (zb (¬ zNot σ k9))), some (.int (1)), none, none, none, none] [.int w] := by
    intro w hw
    have loop : ∀ (G9 : zG), zCl B x tb ev A τ [] 0 (max m0 (zCount 8300 X.1 X.2)) G9 → ∀ (n i : Nat), i + n = 41 → 2 ≤ i → zV p l e (zRmX 12 340 m0 (zCount 8300 X.1 X.2) 20) s m args below meth c D (zA G s.heap.size) (5 + zW m0 (zCount 8300 X.1 X.2)) (60 + 4 * zW m0 (zCount 8300 X.1 X.2)) (zxZ below D G (fun v G9 => v = some (.int 1) ∧ zLq B x τ (max m0 (zCount 8300 X.1 X.2)) G9) (fun _ => False) args s (zRmX 12 340 m0 (zCount 8300 X.1 X.2) 20)) G9 121 [some (.ref x), some (.int (nI k9)), some (.int (nI e9)), some (.int (zb (¬ zNot σ k9))), some (.int (1)), some (.int (w)), some (.int (0)), some (.int (1)), some (.int (nI (i)))] [] := by
      intro G9 hC1 n
      induction n with
      | zero =>
        intro i hi hi2
        have hi41 : i = 41 := by omega
        subst hi41
        refine zz_iload (pc := 121) C dL_isExited_121 rfl ?_
        refine zz_bipush (pc := 123) C (v := 41) (by decide) dL_isExited_123 ?_
        refine zz_icmp_ge (pc := 125) C (tgt := 165) dL_isExited_125 (by decide) (fun hc125 => ?_) (fun hc125 => ?_)
        · refine zz_iload (pc := 165) C dL_isExited_165 rfl ?_
          refine zz_if_eq (pc := 167) C (tgt := 188) dL_isExited_167 (by decide) (fun hc167 => ?_) (fun hc167 => ?_)
          · exact absurd hc167 (by decide)
          · refine zz_iload (pc := 170) C dL_isExited_170 rfl ?_
            refine zz_iconst (pc := 172) C (v := 1) (by decide) dL_isExited_172 ?_
            refine zz_icmp_gt (pc := 173) C (tgt := 184) dL_isExited_173 (by decide) (fun hc173 => ?_) (fun hc173 => ?_)
            · refine zz_iconst (pc := 184) C (v := 1) (by decide) dL_isExited_184 ?_
              refine zz_goto (pc := 185) C (tgt := 189) dL_isExited_185 (by decide) ?_
              exact zzx_ret (zz_ireturn (pc := 189) C dL_isExited_189 (by first | rfl | exact zb_nar) hrc.1 hrc.2 ⟨rfl, ⟨tb, ev, A, hC1⟩⟩)
            · refine zz_aload_n (pc := 176) C dL_isExited_176 rfl ?_
              refine zz_iload_n (pc := 177) C dL_isExited_177 rfl ?_
              refine zz_callV (pc := 178) C (q_exists l D hC1 h1 hk (k := k9)) gL_isExited_X2_exists rfl 1 (by decide +kernel) ⟨Nat.le_of_ble_eq_true rfl, Nat.le_of_ble_eq_true rfl⟩ hC1.x (ci := 2) rfl rfl rfl dL_isExited_178 rfl (Nat.le_of_ble_eq_true rfl) rfl hrc ?_
              rintro v G9 ⟨rfl, rfl⟩
              refine zz_if_ne (pc := 181) C (tgt := 188) dL_isExited_181 (by decide) (fun hc181 => ?_) (fun hc181 => ?_)
              · exact False.elim (zb_ne.mp hc181 (hq (zQ1 hI h0 hn (hw (zNr hn).1) hc173)))
              · refine zz_iconst (pc := 184) C (v := 1) (by decide) dL_isExited_184 ?_
                refine zz_goto (pc := 185) C (tgt := 189) dL_isExited_185 (by decide) ?_
                exact zzx_ret (zz_ireturn (pc := 189) C dL_isExited_189 (by first | rfl | exact zb_nar) hrc.1 hrc.2 ⟨rfl, ⟨tb, ev, A, hC1⟩⟩)
        · exact absurd z41c hc125
      | succ n ih =>
        intro i hi hi2
        refine zz_iload (pc := 121) C dL_isExited_121 rfl ?_
        refine zz_bipush (pc := 123) C (v := 41) (by decide) dL_isExited_123 ?_
        refine zz_icmp_ge (pc := 125) C (tgt := 165) dL_isExited_125 (by decide) (fun hc125 => ?_) (fun hc125 => ?_)
        · exact absurd hc125 (z41b (by omega))
        · refine zz_iload (pc := 128) C dL_isExited_128 rfl ?_
          refine zz_if_eq (pc := 130) C (tgt := 165) dL_isExited_130 (by decide) (fun hc130 => ?_) (fun hc130 => ?_)
          · exact absurd hc130 (by decide)
          · refine zz_aload_n (pc := 133) C dL_isExited_133 rfl ?_
            refine zz_iload (pc := 134) C dL_isExited_134 rfl ?_
            refine zz_callV (pc := 136) C (q_exists l D hC1 (by omega) (by omega)) gL_isExited_X2_exists rfl 1 (by decide +kernel) ⟨Nat.le_of_ble_eq_true rfl, Nat.le_of_ble_eq_true rfl⟩ hC1.x (ci := 2) rfl rfl rfl dL_isExited_136 rfl (Nat.le_of_ble_eq_true rfl) rfl hrc ?_
            rintro v G9 ⟨rfl, rfl⟩
            refine zz_if_eq (pc := 139) C (tgt := 152) dL_isExited_139 (by decide) (fun hc139 => ?_) (fun hc139 => ?_)
            · refine zz_iconst (pc := 152) C (v := 1) (by decide) dL_isExited_152 ?_
              refine zz_goto (pc := 153) C (tgt := 157) dL_isExited_153 (by decide) ?_
              refine zz_istore (pc := 157) C dL_isExited_157 (Nat.le_of_ble_eq_true rfl) ?_
              refine zV.less (L' := [some (.ref (x)), some (.int (nI k9)), some (.int (nI e9)), some (.int (zb (¬ zNot σ k9))), some (.int (1)), some (.int (w)), some (.int (0)), some (.int (1)), some (.int (nI (i)))]) ⟨rfl, rfl, rfl, rfl, rfl, rfl, rfl, rfl, rfl, trivial⟩ ?_
              refine zz_iinc (pc := 159) C dL_isExited_159 rfl ?_
              refine zV.less (L' := [some (.ref (x)), some (.int (nI k9)), some (.int (nI e9)), some (.int (zb (¬ zNot σ k9))), some (.int (1)), some (.int (w)), some (.int (0)), some (.int (1)), some (.int (nI (i + 1)))]) ⟨rfl, rfl, rfl, rfl, rfl, rfl, rfl, rfl, zvi (z1i i), trivial⟩ ?_
              refine zz_goto (pc := 162) C (tgt := 121) dL_isExited_162 (by decide) ?_
              exact ih (i + 1) (by omega) (by omega)
            · refine zz_aload_n (pc := 142) C dL_isExited_142 rfl ?_
              refine zz_iload (pc := 143) C dL_isExited_143 rfl ?_
              refine zz_callV (pc := 145) C (q_parent l D hC1 hW1 (by omega) (by omega) (zbp hc139)) gL_isExited_X2_parent rfl 1 (by decide +kernel) ⟨Nat.le_of_ble_eq_true rfl, Nat.le_of_ble_eq_true rfl⟩ hC1.x (ci := 2) rfl rfl rfl dL_isExited_145 rfl (Nat.le_of_ble_eq_true rfl) rfl hrc ?_
              rintro v G9 ⟨rfl, rfl⟩
              refine zz_iload_n (pc := 148) C dL_isExited_148 rfl ?_
              refine zz_icmp_eq (pc := 149) C (tgt := 156) dL_isExited_149 (by decide) (fun hc149 => ?_) (fun hc149 => ?_)
              · exact False.elim (zOrp hW1 hg (zbp hc139) h1 hk hi2 hc149)
              · refine zz_iconst (pc := 152) C (v := 1) (by decide) dL_isExited_152 ?_
                refine zz_goto (pc := 153) C (tgt := 157) dL_isExited_153 (by decide) ?_
                refine zz_istore (pc := 157) C dL_isExited_157 (Nat.le_of_ble_eq_true rfl) ?_
                refine zV.less (L' := [some (.ref (x)), some (.int (nI k9)), some (.int (nI e9)), some (.int (zb (¬ zNot σ k9))), some (.int (1)), some (.int (w)), some (.int (0)), some (.int (1)), some (.int (nI (i)))]) ⟨rfl, rfl, rfl, rfl, rfl, rfl, rfl, rfl, rfl, trivial⟩ ?_
                refine zz_iinc (pc := 159) C dL_isExited_159 rfl ?_
                refine zV.less (L' := [some (.ref (x)), some (.int (nI k9)), some (.int (nI e9)), some (.int (zb (¬ zNot σ k9))), some (.int (1)), some (.int (w)), some (.int (0)), some (.int (1)), some (.int (nI (i + 1)))]) ⟨rfl, rfl, rfl, rfl, rfl, rfl, rfl, rfl, zvi (z1i i), trivial⟩ ?_
                refine zz_goto (pc := 162) C (tgt := 121) dL_isExited_162 (by decide) ?_
                exact ih (i + 1) (by omega) (by omega)
    refine zz_istore (pc := 47) C dL_isExited_47 (Nat.le_of_ble_eq_true rfl) ?_
    refine zV.less (L' := [some (.ref (x)), some (.int (nI k9)), some (.int (nI e9)), some (.int (zb (¬ zNot σ k9))), some (.int (1)), some (.int (w)), none, none, none]) ⟨rfl, rfl, rfl, rfl, rfl, rfl, trivial⟩ ?_
    refine zz_aload_n (pc := 49) C dL_isExited_49 rfl ?_
    refine zz_iload_n (pc := 50) C dL_isExited_50 rfl ?_
    refine zz_iload_n (pc := 51) C dL_isExited_51 rfl ?_
    refine zzx_callSW (pc := 52) C h8 ((c_L_exits l hl D (x9 := nI k9) (c9 := nI e9) (X := X) (N := 8300) hC hW (by rw [pnn hk]; exact hX) (fun _ => hr)).imp (fun _ _ z => z.elim id (fun z => z.elim (fun y => absurd (hTH.symm.trans y.1) (by decide)) (fun z => z.elim (fun y => absurd (hTH.symm.trans y.1) (by decide)) (fun z => absurd (hTH.symm.trans z.1) (by decide))))) (fun _ z => z)) gL_isExited_L_exits rfl 3 (by decide +kernel) ⟨Nat.le_of_ble_eq_true rfl, Nat.le_of_ble_eq_true rfl⟩ rfl dL_isExited_52 rfl (Nat.le_of_ble_eq_true rfl) rfl (zRx_c (k := 3) (by decide)) (fun E hE => hE.elim) ?_
    rintro v G9 ⟨_, rfl, hC1⟩
    rw [hτ] at hC1
    refine zV.widen (k := 5 + zW m0 (zCount 8300 X.1 X.2)) (n := 60 + 4 * zW m0 (zCount 8300 X.1 X.2)) (zRx_w5 (k := 3) (by decide)).1 (zRx_w5 (k := 3) (by decide)).2 ?_
    refine zz_istore (pc := 55) C dL_isExited_55 (Nat.le_of_ble_eq_true rfl) ?_
    refine zV.less (L' := [some (.ref (x)), some (.int (nI k9)), some (.int (nI e9)), some (.int (zb (¬ zNot σ k9))), some (.int (1)), some (.int (w)), some (.int (0)), none, none]) ⟨rfl, rfl, rfl, rfl, rfl, rfl, rfl, trivial⟩ ?_
    refine zz_iload_n (pc := 57) C dL_isExited_57 rfl ?_
    refine zz_if_eq (pc := 58) C (tgt := 66) dL_isExited_58 (by decide) (fun hc58 => ?_) (fun hc58 => ?_)
    · exact False.elim (zb_eq.mp hc58 hn)
    · refine zz_iload (pc := 61) C dL_isExited_61 rfl ?_
      refine zz_if_ne (pc := 63) C (tgt := 89) dL_isExited_63 (by decide) (fun hc63 => ?_) (fun hc63 => ?_)
      · refine zz_iload (pc := 89) C dL_isExited_89 rfl ?_
        refine zz_if_ne (pc := 91) C (tgt := 115) dL_isExited_91 (by decide) (fun hc91 => ?_) (fun hc91 => ?_)
        · exact absurd rfl hc91
        · refine zz_aload_n (pc := 94) C dL_isExited_94 rfl ?_
          refine zz_iload_n (pc := 95) C dL_isExited_95 rfl ?_
          refine zz_callV (pc := 96) C (q_exists l D hC1 h1 hk (k := k9)) gL_isExited_X2_exists rfl 1 (by decide +kernel) ⟨Nat.le_of_ble_eq_true rfl, Nat.le_of_ble_eq_true rfl⟩ hC1.x (ci := 2) rfl rfl rfl dL_isExited_96 rfl (Nat.le_of_ble_eq_true rfl) rfl hrc ?_
          rintro v G9 ⟨rfl, rfl⟩
          refine zz_if_eq (pc := 99) C (tgt := 111) dL_isExited_99 (by decide) (fun hc99 => ?_) (fun hc99 => ?_)
          · refine zz_iconst (pc := 111) C (v := 1) (by decide) dL_isExited_111 ?_
            refine zz_goto (pc := 112) C (tgt := 116) dL_isExited_112 (by decide) ?_
            refine zz_istore (pc := 116) C dL_isExited_116 (Nat.le_of_ble_eq_true rfl) ?_
            refine zV.less (L' := [some (.ref (x)), some (.int (nI k9)), some (.int (nI e9)), some (.int (zb (¬ zNot σ k9))), some (.int (1)), some (.int (w)), some (.int (0)), some (.int (1)), none]) ⟨rfl, rfl, rfl, rfl, rfl, rfl, rfl, rfl, trivial⟩ ?_
            refine zz_iconst (pc := 118) C (v := 2) (by decide) dL_isExited_118 ?_
            refine zz_istore (pc := 119) C dL_isExited_119 (Nat.le_of_ble_eq_true rfl) ?_
            refine zV.less (L' := [some (.ref (x)), some (.int (nI k9)), some (.int (nI e9)), some (.int (zb (¬ zNot σ k9))), some (.int (1)), some (.int (w)), some (.int (0)), some (.int (1)), some (.int (nI 2))]) ⟨rfl, rfl, rfl, rfl, rfl, rfl, rfl, rfl, rfl, trivial⟩ ?_
            exact zV.less (L' := [some (.ref x), some (.int (nI k9)), some (.int (nI e9)), some (.int (zb (¬ zNot σ k9))), some (.int (1)), some (.int (w)), some (.int (0)), some (.int (1)), some (.int (nI 2))]) ⟨rfl, rfl, rfl, rfl, rfl, rfl, rfl, rfl, rfl, trivial⟩ (loop _ hC1 39 2 rfl (by omega))
          · refine zz_aload_n (pc := 102) C dL_isExited_102 rfl ?_
            refine zz_iload_n (pc := 103) C dL_isExited_103 rfl ?_
            refine zz_callV (pc := 104) C (q_state l D hC1 h1 hk (zbp hc99) (k := k9)) gL_isExited_X2_state rfl 1 (by decide +kernel) ⟨Nat.le_of_ble_eq_true rfl, Nat.le_of_ble_eq_true rfl⟩ hC1.x (ci := 2) rfl rfl rfl dL_isExited_104 rfl (Nat.le_of_ble_eq_true rfl) rfl hrc ?_
            rintro v G9 ⟨rfl, rfl⟩
            refine zz_iconst (pc := 107) C (v := 3) (by decide) dL_isExited_107 ?_
            refine zz_icmp_ne (pc := 108) C (tgt := 115) dL_isExited_108 (by decide) (fun hc108 => ?_) (fun hc108 => ?_)
            · exact False.elim (hc108 (zCon_3.mpr (hg.resolve_left (zbp hc99))))
            · refine zz_iconst (pc := 111) C (v := 1) (by decide) dL_isExited_111 ?_
              refine zz_goto (pc := 112) C (tgt := 116) dL_isExited_112 (by decide) ?_
              refine zz_istore (pc := 116) C dL_isExited_116 (Nat.le_of_ble_eq_true rfl) ?_
              refine zV.less (L' := [some (.ref (x)), some (.int (nI k9)), some (.int (nI e9)), some (.int (zb (¬ zNot σ k9))), some (.int (1)), some (.int (w)), some (.int (0)), some (.int (1)), none]) ⟨rfl, rfl, rfl, rfl, rfl, rfl, rfl, rfl, trivial⟩ ?_
              refine zz_iconst (pc := 118) C (v := 2) (by decide) dL_isExited_118 ?_
              refine zz_istore (pc := 119) C dL_isExited_119 (Nat.le_of_ble_eq_true rfl) ?_
              refine zV.less (L' := [some (.ref (x)), some (.int (nI k9)), some (.int (nI e9)), some (.int (zb (¬ zNot σ k9))), some (.int (1)), some (.int (w)), some (.int (0)), some (.int (1)), some (.int (nI 2))]) ⟨rfl, rfl, rfl, rfl, rfl, rfl, rfl, rfl, rfl, trivial⟩ ?_
              exact zV.less (L' := [some (.ref x), some (.int (nI k9)), some (.int (nI e9)), some (.int (zb (¬ zNot σ k9))), some (.int (1)), some (.int (w)), some (.int (0)), some (.int (1)), some (.int (nI 2))]) ⟨rfl, rfl, rfl, rfl, rfl, rfl, rfl, rfl, rfl, trivial⟩ (loop _ hC1 39 2 rfl (by omega))
      · exact absurd (by decide) hc63
  have K18 : zV p l e (zRmX 12 340 m0 (zCount 8300 X.1 X.2) 20) s m args below meth c D (zA G s.heap.size) 0 0 (zxZ below D G (fun v G9 => v = some (.int 1) ∧ zLq B x τ (max m0 (zCount 8300 X.1 X.2)) G9) (fun _ => False) args s (zRmX 12 340 m0 (zCount 8300 X.1 X.2) 20)) G 18 [some (.ref x), some (.int (nI k9)), some (.int (nI e9)), none, none, none, none, none, none] [.int (zb (¬ zNot σ k9))] := by
    refine zz_istore_n (pc := 18) C dL_isExited_18 (Nat.le_of_ble_eq_true rfl) ?_
    refine zV.less (L' := [some (.ref (x)), some (.int (nI k9)), some (.int (nI e9)), some (.int (zb (¬ zNot σ k9))), none, none, none, none, none]) ⟨rfl, rfl, rfl, rfl, trivial⟩ ?_
    refine zz_iload_n (pc := 19) C dL_isExited_19 rfl ?_
    refine zz_sipush (pc := 20) C (v := 256) (by decide) dL_isExited_20 ?_
    refine zz_icmp_ge (pc := 23) C (tgt := 30) dL_isExited_23 (by decide) (fun hc23 => ?_) (fun hc23 => ?_)
    · exact absurd hc23 (z256n hc9)
    · refine zz_iconst (pc := 26) C (v := 1) (by decide) dL_isExited_26 ?_
      refine zz_goto (pc := 27) C (tgt := 31) dL_isExited_27 (by decide) ?_
      refine zz_istore (pc := 31) C dL_isExited_31 (Nat.le_of_ble_eq_true rfl) ?_
      refine zV.less (L' := [some (.ref (x)), some (.int (nI k9)), some (.int (nI e9)), some (.int (zb (¬ zNot σ k9))), some (.int (1)), none, none, none, none]) ⟨rfl, rfl, rfl, rfl, rfl, trivial⟩ ?_
      refine zz_iload_n (pc := 33) C dL_isExited_33 rfl ?_
      refine zz_iconst (pc := 34) C (v := 1) (by decide) dL_isExited_34 ?_
      refine zz_icmp_ne (pc := 35) C (tgt := 42) dL_isExited_35 (by decide) (fun hc35 => ?_) (fun hc35 => ?_)
      · refine zz_aload_n (pc := 42) C dL_isExited_42 rfl ?_
        refine zz_iload_n (pc := 43) C dL_isExited_43 rfl ?_
        refine zz_callV (pc := 44) C (q_parent l D hC hW h1 hk h0) gL_isExited_X2_parent rfl 1 (by decide +kernel) ⟨Nat.le_of_ble_eq_true rfl, Nat.le_of_ble_eq_true rfl⟩ hC.x (ci := 2) rfl rfl rfl dL_isExited_44 rfl (Nat.le_of_ble_eq_true rfl) rfl (zRx_0 (Nat.le_of_ble_eq_true rfl) (Nat.le_of_ble_eq_true rfl)) ?_
        rintro v G9 ⟨rfl, rfl⟩
        exact zV.less (L' := [some (.ref x), some (.int (nI k9)), some (.int (nI e9)), some (.int (zb (¬ zNot σ k9))), some (.int (1)), none, none, none, none]) ⟨rfl, rfl, rfl, rfl, rfl, trivial⟩ (K47 _ (fun z => rfl))
      · refine zz_iconst (pc := 38) C (v := 1) (by decide) dL_isExited_38 ?_
        refine zz_goto (pc := 39) C (tgt := 47) dL_isExited_39 (by decide) ?_
        exact zV.less (L' := [some (.ref x), some (.int (nI k9)), some (.int (nI e9)), some (.int (zb (¬ zNot σ k9))), some (.int (1)), none, none, none, none]) ⟨rfl, rfl, rfl, rfl, rfl, trivial⟩ (K47 _ (fun z => absurd (zEq1 hk (Classical.not_not.mp hc35)) z))
  refine zz_iload_n (pc := 0) C dL_isExited_0 rfl ?_
  refine zz_iconst (pc := 1) C (v := 1) (by decide) dL_isExited_1 ?_
  refine zz_icmp_le (pc := 2) C (tgt := 17) dL_isExited_2 (by decide) (fun hc2 => ?_) (fun hc2 => ?_)
  · refine zz_iconst (pc := 17) C (v := 0) (by decide) dL_isExited_17 ?_
    exact zV.less (L' := [some (.ref x), some (.int (nI k9)), some (.int (nI e9)), none, none, none, none, none, none]) ⟨rfl, rfl, rfl, trivial⟩ (zV.topK K18 ((zb_f (fun z => z (Or.inl (zLe1 h1 hk hc2)))).symm))
  · refine zz_aload_n (pc := 5) C dL_isExited_5 rfl ?_
    refine zz_iload_n (pc := 6) C dL_isExited_6 rfl ?_
    refine zz_callV (pc := 7) C (q_state l D hC h1 hk h0) gL_isExited_X2_state rfl 1 (by decide +kernel) ⟨Nat.le_of_ble_eq_true rfl, Nat.le_of_ble_eq_true rfl⟩ hC.x (ci := 2) rfl rfl rfl dL_isExited_7 rfl (Nat.le_of_ble_eq_true rfl) rfl (zRx_0 (Nat.le_of_ble_eq_true rfl) (Nat.le_of_ble_eq_true rfl)) ?_
    rintro v G9 ⟨rfl, rfl⟩
    refine zz_if_ne (pc := 10) C (tgt := 17) dL_isExited_10 (by decide) (fun hc10 => ?_) (fun hc10 => ?_)
    · refine zz_iconst (pc := 17) C (v := 0) (by decide) dL_isExited_17 ?_
      exact zV.less (L' := [some (.ref x), some (.int (nI k9)), some (.int (nI e9)), none, none, none, none, none, none]) ⟨rfl, rfl, rfl, trivial⟩ (zV.topK K18 ((zb_f (fun z => z (Or.inr (fun y => hc10 (zCon_0.mpr y))))).symm))
    · refine zz_iconst (pc := 13) C (v := 1) (by decide) dL_isExited_13 ?_
      refine zz_goto (pc := 14) C (tgt := 18) dL_isExited_14 (by decide) ?_
      exact zV.less (L' := [some (.ref x), some (.int (nI k9)), some (.int (nI e9)), none, none, none, none, none, none]) ⟨rfl, rfl, rfl, trivial⟩ (zV.topK K18 ((zb_t (show ¬ zNot σ k9 from fun z => z.elim (fun y => hc2 (by rw [y]; decide)) (fun y => y (zCon_0.mp (Classical.not_not.mp hc10))))).symm))
