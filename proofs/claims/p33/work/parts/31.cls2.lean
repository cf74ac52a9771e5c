theorem zClsB.inj {B G : zG} {x : Nat} {σ : zS} {q : List zEv} {h cap : Nat} {tb ev ka pa : Nat} {T : Nat → Option Nat} {F : Nat → Nat → Int32} {fk fp : Nat → Int32} {ck cp : Int32} (hC : zClsB B x σ q h cap G tb ev ka pa T F fk fp ck cp) {i j a : Nat} (hi : i < 41) (hj : j < 41) (h1 : T i = some a) (h2 : T j = some a) : i = j := by
  obtain ⟨_, a1, a2⟩ := hC.th hi h1
  obtain ⟨_, b1, b2⟩ := hC.th hj h2
  rw [a1] at b1
  have h4 := (Prod.mk.inj (Option.some.inj b1)).2
  have h5 : zPr (zPar T σ i) (F i) = zPr (zPar T σ j) (F j) := (Prod.mk.inj (Sum.inr.inj h4)).2
  have h6 := zPr_0 h5
  rw [a2.1, b2.1] at h6
  exact (nI_eq (by omega) (by omega)).mp h6
/-- the processes there have their groups, sessions and parents -/
def zHas (σ : zS) : Prop := (∀ k, k < 41 → σ 0 k ≠ 0 → 1 ≤ k ∧ (∃ g, σ 2 k = nI g ∧ 1 ≤ g ∧ g < 41) ∧ ∃ g, σ 3 k = nI g ∧ 1 ≤ g ∧ g < 41) ∧ (∀ k, k < 41 → σ 0 k ≠ 0 → k ≠ 1 → ∃ j, σ 1 k = nI j ∧ 1 ≤ j ∧ j < 41 ∧ σ 0 j ≠ 0) ∧ σ 0 0 = 0 ∧ σ 1 1 = -1
theorem zPar_1 {T : Nat → Option Nat} {σ : zS} : zPar T σ 1 = .null := if_pos rfl
theorem zPar_n {T : Nat → Option Nat} {σ : zS} {k j a : Nat} (hk : k ≠ 1) (hj : σ 1 k = nI j) (h41 : j < 41) (ha : T j = some a) : zPar T σ k = .ref a := by
  unfold zPar
  rw [if_neg hk, hj, show pn (nI j) = j from nI_clamp (by omega), ha]
  rfl
theorem c_clsAtt (l : Launch) (D : va_G) {B G : zG} {x : Nat} {σ : zS} {q : List zEv} {h cap : Nat} {tb ev ka pa : Nat} {T : Nat → Option Nat} {F : Nat → Nat → Int32} {fk fp : Nat → Int32} {ck cp : Int32} {k a : Nat} (hC : zClsB B x σ q h cap G tb ev ka pa T F fk fp ck cp) (hH : zHas σ) (hk : k < 41) (hTa : T k = some a) : zMet D l yX1_attachesItsGroup wsX1_attachesItsGroup ({ frames := 0, cells := 0, slots := 0, locals := 0 } : Room) [.ref a] G (fun v G9 => v = some (.int (zb (zAtt σ k))) ∧ G9 = G) := by
  obtain ⟨h0, hGa, hPF⟩ := hC.th hk hTa
  by_cases hk1 : k = 1
  · subst hk1
    rw [zPar_1] at hGa
    refine (c_X1_attachesItsGroupN (b := 0) (tb := 0) (pb := .null) (g := F 1) l D hGa).imp ?_
    rintro v G9 ⟨rfl, rfl⟩
    exact ⟨zvf (fun z => z.2.2.1 rfl), rfl⟩
  · obtain ⟨j, hj, hj1, hj2, hj3⟩ := hH.2.1 k hk h0 hk1
    obtain ⟨b, hTb, hGb, hPb⟩ := hC.2.2.2.2.2 j hj2 hj3
    rw [zPar_n hk1 hj hj2 hTb] at hGa
    refine (c_X1_attachesItsGroup l D hGa hGb).imp ?_
    rintro v G9 ⟨rfl, rfl⟩
    refine ⟨zvi (zb_congr ?_), rfl⟩
    have hpn : pn (σ 1 k) = j := by rw [hj]; exact nI_clamp (by omega)
    rw [hPF.2.2.2.2.1, hPb.2.2.2.2.1, hPb.2.2.1, hPF.2.2.1, hPb.2.1, hPF.2.1]
    show _ ↔ (σ 0 k ≠ 0 ∧ σ 4 k = 0 ∧ k ≠ 1 ∧ σ 4 (pn (σ 1 k)) = 0 ∧ σ 3 (pn (σ 1 k)) = σ 3 k ∧ σ 2 (pn (σ 1 k)) ≠ σ 2 k)
    rw [hpn]
    exact ⟨fun z => ⟨h0, z.1, hk1, z.2.1, z.2.2.1, z.2.2.2⟩, fun z => ⟨z.2.1, z.2.2.2.1, z.2.2.2.2.1, z.2.2.2.2.2⟩⟩
/-- a long as a set of groups: those that are attached, of the first n processes -/
def zAtS (σ : zS) (w : Int64) (n : Nat) : Prop := ∀ g, g < 64 → (zlbit w g = true ↔ ∃ k, k < n ∧ zAtt σ k ∧ σ 2 k = nI g)
theorem zEx_succ {P : Nat → Prop} {n : Nat} : (∃ k, k < n + 1 ∧ P k) ↔ (∃ k, k < n ∧ P k) ∨ P n := by
  constructor
  · rintro ⟨k, h1, h2⟩
    by_cases hk : k = n
    · rw [hk] at h2; exact Or.inr h2
    · exact Or.inl ⟨k, by omega, h2⟩
  · rintro (⟨k, h1, h2⟩ | h)
    · exact ⟨k, by omega, h2⟩
    · exact ⟨n, by omega, h⟩
theorem zAtS_no {σ : zS} {w : Int64} {n : Nat} (h : zAtS σ w n) (hn : ¬ zAtt σ n) : zAtS σ w (n + 1) := fun g hg => by
  rw [h g hg, zEx_succ]
  exact ⟨Or.inl, fun z => z.elim id (fun u => absurd u.1 hn)⟩
theorem zAtS_yes {σ : zS} {w : Int64} {n a : Nat} {v : Int32} (h : zAtS σ w n) (hn : zAtt σ n) (hv : v = σ 2 n) (ha : σ 2 n = nI a) (ha2 : a < 64) : zAtS σ (w ||| ((1 : Int64) <<< (v.toInt64 &&& 63))) (n + 1) := fun g hg => by
  rw [zlbit_or, hv, ha, show ((1 : Int64) <<< ((nI a).toInt64 &&& 63)) = zlSh a from rfl, zlbit_sh ha2 hg, Bool.or_eq_true, h g hg, zEx_succ, decide_eq_true_eq]
  constructor
  · rintro (z | z)
    · exact Or.inl z
    · exact Or.inr ⟨hn, by rw [ha, z]⟩
  · rintro (z | z)
    · exact Or.inl z
    · exact Or.inr ((nI_eq (by omega) (by omega)).mp (ha.symm.trans z.2)).symm
theorem zAtS_0 {σ : zS} : zAtS σ 0 0 := fun g hg => by
  rw [zlbit_0]
  exact ⟨fun z => (by cases z), fun ⟨k, h1, _⟩ => absurd h1 (by omega)⟩
theorem zAtS_o {σ : zS} {w : Int64} {g : Nat} (h : zAtS σ w 41) (hg : g < 64) : zlbit w g = true ↔ ¬ zOrph σ (nI g) := by
  rw [h g hg]
  constructor
  · rintro ⟨k, h1, h2, h3⟩ z
    exact z k h1 ⟨h2, h3⟩
  · intro z
    by_cases hx : ∃ k, k < 41 ∧ zAtt σ k ∧ σ 2 k = nI g
    · exact hx
    · exact absurd (fun k hk u => hx ⟨k, hk, u.1, u.2⟩) z
theorem fl_X2_attachedGroups_11 : Cond.fieldLink RX2 11 "Signalpost" "table" "[LSignalpost$Proc;" ∈ wsX2_attachedGroups := by decide +kernel
theorem fl_X2_attachedGroups_103 : Cond.fieldLink RX2 103 "Signalpost$Proc" "group" "I" ∈ wsX2_attachedGroups := by decide +kernel
theorem in_X2_attachedGroups_X1 : ∀ w ∈ u_ws RX1 TX1 20, w ∈ wsX2_attachedGroups := by decide +kernel
theorem in_X2_attachedGroups_X2 : ∀ w ∈ u_ws RX2 TX2 4, w ∈ wsX2_attachedGroups := by decide +kernel
set_option maxHeartbeats 4000000 in
set_option maxRecDepth 100000 in
theorem c_X2_attachedGroups (l : Launch) (D : va_G) {B G : zG} {x : Nat} {σ : zS} {q : List zEv} {h cap : Nat} {tb ev ka pa : Nat} {T : Nat → Option Nat} {F : Nat → Nat → Int32} {fk fp : Nat → Int32} {ck cp : Int32}  (hC : zClsB B x σ q h cap G tb ev ka pa T F fk fp ck cp) (hH : zHas σ) : zMet D l yX2_attachedGroups wsX2_attachedGroups ({ frames := 1, cells := 0, slots := 0, locals := 20 } : Room) [.ref x] G (fun v G9 => ∃ w, v = some (.long w) ∧ zAtS σ w 41 ∧ G9 = G) := by
  refine zMet_of (cc := cX2_attachedGroups) (maxL := 7) (ret := (some .long)) (by decide) rfl (Nat.le_of_ble_eq_true rfl) ?_
  intro p e s m args below meth c C hmn
  have hgr : ∀ i, i < 41 → σ 0 i ≠ 0 → σ 2 i = nI (pn (σ 2 i)) := fun i hi h0 => by
    obtain ⟨g, h1, h2, h3⟩ := (hH.1 i hi h0).2.1
    rw [h1, show pn (nI g) = g from nI_clamp (by omega)]
  have hgl : ∀ i, i < 41 → σ 0 i ≠ 0 → pn (σ 2 i) < 64 := fun i hi h0 => by
    obtain ⟨g, h1, h2, h3⟩ := (hH.1 i hi h0).2.1
    rw [h1, show pn (nI g) = g from nI_clamp (by omega)]
    omega
  have loop : ∀ (n i : Nat) (w9 : Int64), i + n = 41 → zAtS σ w9 i → zV p l e ({ frames := 1, cells := 0, slots := 0, locals := 20 } : Room) s m args below meth c D (zA G s.heap.size) 0 0 (zZ below D G (fun v G9 => ∃ w, v = some (.long w) ∧ zAtS σ w 41 ∧ G9 = G) args s ({ frames := 1, cells := 0, slots := 0, locals := 20 } : Room)) G 14 [some (.ref x), some (.long w9), none, some (.ref tb), some (.int (nI 41)), some (.int (nI (i))), none] [] := by
    intro n
    induction n with
    | zero =>
      intro i w9 hi hinv
      have hi41 : i = 41 := by omega
      subst hi41
      refine zz_iload (pc := 14) C dX2_attachedGroups_14 rfl ?_
      refine zz_iload (pc := 16) C dX2_attachedGroups_16 rfl ?_
      refine zz_icmp_ge (pc := 18) C (tgt := 56) dX2_attachedGroups_18 (by decide) (fun hc18 => ?_) (fun hc18 => ?_)
      · refine zz_lload_n (pc := 56) C dX2_attachedGroups_56 rfl ?_
        exact zz_lreturn (pc := 57) C dX2_attachedGroups_57 (Nat.le_refl _) (Nat.le_refl _) ⟨w9, rfl, hinv, rfl⟩
      · exact absurd z4141 hc18
    | succ n ih =>
      intro i w9 hi hinv
      refine zz_iload (pc := 14) C dX2_attachedGroups_14 rfl ?_
      refine zz_iload (pc := 16) C dX2_attachedGroups_16 rfl ?_
      refine zz_icmp_ge (pc := 18) C (tgt := 56) dX2_attachedGroups_18 (by decide) (fun hc18 => ?_) (fun hc18 => ?_)
      · exact absurd hc18 (z41i (by omega))
      · refine zz_aload_n (pc := 21) C dX2_attachedGroups_21 rfl ?_
        refine zz_iload (pc := 22) C dX2_attachedGroups_22 rfl ?_
        refine zz_tald (pc := 24) C hC dX2_attachedGroups_24 (k := i) (by omega) rfl (fun hno => ?_) (fun a9 hTa hth hGa hPF => ?_)
        · skip
          refine zz_astoreN (pc := 25) C dX2_attachedGroups_25 (Nat.le_of_ble_eq_true rfl) ?_
          refine zz_aloadN (pc := 27) C dX2_attachedGroups_27 rfl ?_
          refine zz_ifnullN (pc := 29) C (tgt := 50) dX2_attachedGroups_29 (by decide) ?_
          refine zz_iinc (pc := 50) C dX2_attachedGroups_50 rfl ?_
          refine zz_goto (pc := 53) C (tgt := 14) dX2_attachedGroups_53 (by decide) ?_
          first
            | exact zV.less (L' := [some (.ref x), some (.long w9), none, some (.ref tb), some (.int (nI 41)), some (.int (nI (i + 1))), none]) ⟨rfl, rfl, rfl, rfl, zvi (z1i i), trivial⟩ (ih (i + 1) _ (by omega) (zAtS_no hinv (fun z => z.1 hno)))
            | exact zV.less (L' := [some (.ref x), some (.long w9), none, some (.ref tb), some (.int (nI 41)), some (.int (nI (i + 1))), none]) ⟨rfl, rfl, rfl, rfl, zvi (z1i i), trivial⟩ (ih (i + 1) _ (by omega) (zAtS_no hinv (zb_eq.mp hc37)))
            | exact zV.less (L' := [some (.ref x), some (.long (w9 ||| ((1 : Int64) <<< ((F i 2).toInt64 &&& 63)))), none, some (.ref tb), some (.int (nI 41)), some (.int (nI (i + 1))), none]) ⟨rfl, rfl, rfl, rfl, zvi (z1i i), trivial⟩ (ih (i + 1) _ (by omega) (zAtS_yes hinv (zbp hc37) hPF.2.1 (hgr i (by omega) hth) (hgl i (by omega) hth)))
        · skip
          refine zz_astore (pc := 25) C dX2_attachedGroups_25 (Nat.le_of_ble_eq_true rfl) ?_
          refine zz_aload (pc := 27) C dX2_attachedGroups_27 rfl ?_
          refine zz_ifnull (pc := 29) C dX2_attachedGroups_29 ?_
          refine zz_aload (pc := 32) C dX2_attachedGroups_32 rfl ?_
          refine zz_callV (pc := 34) C (c_clsAtt l D hC hH (k := i) (by omega) hTa) gX2_attachedGroups_X1_attachesItsGroup rfl 0 (by decide +kernel) ⟨Nat.le_of_ble_eq_true rfl, Nat.le_of_ble_eq_true rfl⟩ hGa (ci := 1) rfl rfl rfl dX2_attachedGroups_34 rfl (Nat.le_of_ble_eq_true rfl) rfl ⟨Nat.le_of_ble_eq_true rfl, Nat.le_of_ble_eq_true rfl⟩ ?_
          rintro v G9 ⟨rfl, rfl⟩
          refine zz_if_eq (pc := 37) C (tgt := 50) dX2_attachedGroups_37 (by decide) (fun hc37 => ?_) (fun hc37 => ?_)
          · refine zz_iinc (pc := 50) C dX2_attachedGroups_50 rfl ?_
            refine zz_goto (pc := 53) C (tgt := 14) dX2_attachedGroups_53 (by decide) ?_
            first
              | exact zV.less (L' := [some (.ref x), some (.long w9), none, some (.ref tb), some (.int (nI 41)), some (.int (nI (i + 1))), none]) ⟨rfl, rfl, rfl, rfl, zvi (z1i i), trivial⟩ (ih (i + 1) _ (by omega) (zAtS_no hinv (fun z => z.1 hno)))
              | exact zV.less (L' := [some (.ref x), some (.long w9), none, some (.ref tb), some (.int (nI 41)), some (.int (nI (i + 1))), none]) ⟨rfl, rfl, rfl, rfl, zvi (z1i i), trivial⟩ (ih (i + 1) _ (by omega) (zAtS_no hinv (zb_eq.mp hc37)))
              | exact zV.less (L' := [some (.ref x), some (.long (w9 ||| ((1 : Int64) <<< ((F i 2).toInt64 &&& 63)))), none, some (.ref tb), some (.int (nI 41)), some (.int (nI (i + 1))), none]) ⟨rfl, rfl, rfl, rfl, zvi (z1i i), trivial⟩ (ih (i + 1) _ (by omega) (zAtS_yes hinv (zbp hc37) hPF.2.1 (hgr i (by omega) hth) (hgl i (by omega) hth)))
          · refine zz_lload_n (pc := 40) C dX2_attachedGroups_40 rfl ?_
            refine zz_lconst (pc := 41) C (v := 1) rfl dX2_attachedGroups_41 ?_
            refine zz_aload (pc := 42) C dX2_attachedGroups_42 rfl ?_
            refine zz_get (pc := 44) C in_X2_attachedGroups_X1 (ci := 1) rfl 2 (by decide) (fl_X2_attachedGroups_103) rfl dX2_attachedGroups_44 hGa rfl ?_
            refine zz_lshl (pc := 47) C dX2_attachedGroups_47 ?_
            refine zz_lor (pc := 48) C dX2_attachedGroups_48 ?_
            refine zz_lstore_n (pc := 49) C dX2_attachedGroups_49 (Nat.le_of_ble_eq_true rfl) ?_
            refine zz_iinc (pc := 50) C dX2_attachedGroups_50 rfl ?_
            refine zz_goto (pc := 53) C (tgt := 14) dX2_attachedGroups_53 (by decide) ?_
            first
              | exact zV.less (L' := [some (.ref x), some (.long w9), none, some (.ref tb), some (.int (nI 41)), some (.int (nI (i + 1))), none]) ⟨rfl, rfl, rfl, rfl, zvi (z1i i), trivial⟩ (ih (i + 1) _ (by omega) (zAtS_no hinv (fun z => z.1 hno)))
              | exact zV.less (L' := [some (.ref x), some (.long w9), none, some (.ref tb), some (.int (nI 41)), some (.int (nI (i + 1))), none]) ⟨rfl, rfl, rfl, rfl, zvi (z1i i), trivial⟩ (ih (i + 1) _ (by omega) (zAtS_no hinv (zb_eq.mp hc37)))
              | exact zV.less (L' := [some (.ref x), some (.long (w9 ||| ((1 : Int64) <<< ((F i 2).toInt64 &&& 63)))), none, some (.ref tb), some (.int (nI 41)), some (.int (nI (i + 1))), none]) ⟨rfl, rfl, rfl, rfl, zvi (z1i i), trivial⟩ (ih (i + 1) _ (by omega) (zAtS_yes hinv (zbp hc37) hPF.2.1 (hgr i (by omega) hth) (hgl i (by omega) hth)))
  refine zz_lconst (pc := 0) C (v := 0) rfl dX2_attachedGroups_0 ?_
  refine zz_lstore_n (pc := 1) C dX2_attachedGroups_1 (Nat.le_of_ble_eq_true rfl) ?_
  refine zz_aload_n (pc := 2) C dX2_attachedGroups_2 rfl ?_
  refine zz_get (pc := 3) C in_X2_attachedGroups_X2 (ci := 2) rfl 0 (by decide) (fl_X2_attachedGroups_11) rfl dX2_attachedGroups_3 hC.2.1 rfl ?_
  refine zz_astore_n (pc := 6) C dX2_attachedGroups_6 (Nat.le_of_ble_eq_true rfl) ?_
  refine zz_aload_n (pc := 7) C dX2_attachedGroups_7 rfl ?_
  refine zz_tlen (pc := 8) C hC dX2_attachedGroups_8 ?_
  refine zz_istore (pc := 9) C dX2_attachedGroups_9 (Nat.le_of_ble_eq_true rfl) ?_
  refine zz_iconst (pc := 11) C (v := 0) (by decide) dX2_attachedGroups_11 ?_
  refine zz_istore (pc := 12) C dX2_attachedGroups_12 (Nat.le_of_ble_eq_true rfl) ?_
  exact zV.less (L' := [some (.ref x), some (.long 0), none, some (.ref tb), some (.int (nI 41)), some (.int (nI (0))), none]) ⟨rfl, rfl, rfl, rfl, rfl, trivial⟩ (loop 41 0 0 rfl zAtS_0)
theorem fl_X2_processes_11 : Cond.fieldLink RX2 11 "Signalpost" "table" "[LSignalpost$Proc;" ∈ wsX2_processes := by decide +kernel
theorem in_X2_processes_X2 : ∀ w ∈ u_ws RX2 TX2 4, w ∈ wsX2_processes := by decide +kernel
set_option maxHeartbeats 4000000 in
set_option maxRecDepth 100000 in
theorem c_X2_processes (l : Launch) (D : va_G) {B G : zG} {x : Nat} {σ : zS} {q : List zEv} {h cap : Nat} {tb ev ka pa : Nat} {T : Nat → Option Nat} {F : Nat → Nat → Int32} {fk fp : Nat → Int32} {ck cp : Int32}  (hC : zClsB B x σ q h cap G tb ev ka pa T F fk fp ck cp)  : zMet D l yX2_processes wsX2_processes ({ frames := 0, cells := 0, slots := 0, locals := 0 } : Room) [.ref x] G (fun v G9 => v = some (.int (nI (zCnt σ 41))) ∧ G9 = G) := by
  refine zMet_of (cc := cX2_processes) (maxL := 6) (ret := (some .int)) (by decide) rfl (Nat.le_of_ble_eq_true rfl) ?_
  intro p e s m args below meth c C hmn
  have loop : ∀ (n i : Nat), i + n = 41 → zV p l e ({ frames := 0, cells := 0, slots := 0, locals := 0 } : Room) s m args below meth c D (zA G s.heap.size) 0 0 (zZ below D G (fun v G9 => v = some (.int (nI (zCnt σ 41))) ∧ G9 = G) args s ({ frames := 0, cells := 0, slots := 0, locals := 0 } : Room)) G 13 [some (.ref x), some (.int (nI (zCnt σ i))), some (.ref tb), some (.int (nI 41)), some (.int (nI (i))), none] [] := by
    intro n
    induction n with
    | zero =>
      intro i hi
      have hi41 : i = 41 := by omega
      subst hi41
      refine zz_iload (pc := 13) C dX2_processes_13 rfl ?_
      refine zz_iload_n (pc := 15) C dX2_processes_15 rfl ?_
      refine zz_icmp_ge (pc := 16) C (tgt := 39) dX2_processes_16 (by decide) (fun hc16 => ?_) (fun hc16 => ?_)
      · refine zz_iload_n (pc := 39) C dX2_processes_39 rfl ?_
        first
          | exact zz_ireturn (pc := 40) C dX2_processes_40 (by first | rfl | decide | exact zb_nar) (Nat.le_refl _) (Nat.le_refl _) ⟨rfl, rfl⟩
      · exact absurd z4141 hc16
    | succ n ih =>
      intro i hi
      refine zz_iload (pc := 13) C dX2_processes_13 rfl ?_
      refine zz_iload_n (pc := 15) C dX2_processes_15 rfl ?_
      refine zz_icmp_ge (pc := 16) C (tgt := 39) dX2_processes_16 (by decide) (fun hc16 => ?_) (fun hc16 => ?_)
      · exact absurd hc16 (z41i (by omega))
      · refine zz_aload_n (pc := 19) C dX2_processes_19 rfl ?_
        refine zz_iload (pc := 20) C dX2_processes_20 rfl ?_
        refine zz_tald (pc := 22) C hC dX2_processes_22 (k := i) (by omega) rfl (fun hno => ?_) (fun a9 hTa hth hGa hPF => ?_)
        · skip
          refine zz_astoreN (pc := 23) C dX2_processes_23 (Nat.le_of_ble_eq_true rfl) ?_
          refine zz_aloadN (pc := 25) C dX2_processes_25 rfl ?_
          refine zz_ifnullN (pc := 27) C (tgt := 33) dX2_processes_27 (by decide) ?_
          refine zz_iinc (pc := 33) C dX2_processes_33 rfl ?_
          refine zz_goto (pc := 36) C (tgt := 13) dX2_processes_36 (by decide) ?_
          first
            | exact zV.less (L' := [some (.ref x), some (.int (nI (zCnt σ (i + 1)))), some (.ref tb), some (.int (nI 41)), some (.int (nI (i + 1))), none]) ⟨rfl, zvi ((z1i _).trans (congrArg nI (zCnt_yes (σ := σ) hth).symm)), rfl, rfl, zvi (z1i i), trivial⟩ (ih (i + 1) (by omega))
            | exact zV.less (L' := [some (.ref x), some (.int (nI (zCnt σ (i + 1)))), some (.ref tb), some (.int (nI 41)), some (.int (nI (i + 1))), none]) ⟨rfl, zvi (congrArg nI (zCnt_no (σ := σ) (fun z => z hno)).symm), rfl, rfl, zvi (z1i i), trivial⟩ (ih (i + 1) (by omega))
        · skip
          refine zz_astore (pc := 23) C dX2_processes_23 (Nat.le_of_ble_eq_true rfl) ?_
          refine zz_aload (pc := 25) C dX2_processes_25 rfl ?_
          refine zz_ifnull (pc := 27) C dX2_processes_27 ?_
          refine zz_iinc (pc := 30) C dX2_processes_30 rfl ?_
          refine zz_iinc (pc := 33) C dX2_processes_33 rfl ?_
          refine zz_goto (pc := 36) C (tgt := 13) dX2_processes_36 (by decide) ?_
          first
            | exact zV.less (L' := [some (.ref x), some (.int (nI (zCnt σ (i + 1)))), some (.ref tb), some (.int (nI 41)), some (.int (nI (i + 1))), none]) ⟨rfl, zvi ((z1i _).trans (congrArg nI (zCnt_yes (σ := σ) hth).symm)), rfl, rfl, zvi (z1i i), trivial⟩ (ih (i + 1) (by omega))
            | exact zV.less (L' := [some (.ref x), some (.int (nI (zCnt σ (i + 1)))), some (.ref tb), some (.int (nI 41)), some (.int (nI (i + 1))), none]) ⟨rfl, zvi (congrArg nI (zCnt_no (σ := σ) (fun z => z hno)).symm), rfl, rfl, zvi (z1i i), trivial⟩ (ih (i + 1) (by omega))
  refine zz_iconst (pc := 0) C (v := 0) (by decide) dX2_processes_0 ?_
  refine zz_istore_n (pc := 1) C dX2_processes_1 (Nat.le_of_ble_eq_true rfl) ?_
  refine zz_aload_n (pc := 2) C dX2_processes_2 rfl ?_
  refine zz_get (pc := 3) C in_X2_processes_X2 (ci := 2) rfl 0 (by decide) (fl_X2_processes_11) rfl dX2_processes_3 hC.2.1 rfl ?_
  refine zz_astore_n (pc := 6) C dX2_processes_6 (Nat.le_of_ble_eq_true rfl) ?_
  refine zz_aload_n (pc := 7) C dX2_processes_7 rfl ?_
  refine zz_tlen (pc := 8) C hC dX2_processes_8 ?_
  refine zz_istore_n (pc := 9) C dX2_processes_9 (Nat.le_of_ble_eq_true rfl) ?_
  refine zz_iconst (pc := 10) C (v := 0) (by decide) dX2_processes_10 ?_
  refine zz_istore (pc := 11) C dX2_processes_11 (Nat.le_of_ble_eq_true rfl) ?_
  exact zV.less (L' := [some (.ref x), some (.int (nI (zCnt σ 0))), some (.ref tb), some (.int (nI 41)), some (.int (nI (0))), none]) ⟨rfl, zvi rfl, rfl, rfl, rfl, trivial⟩ (loop 41 0 rfl)
def zUsS (σ : zS) (w : Int64) (n : Nat) : Prop := ∀ g, g < 64 → (zlbit w g = true ↔ ∃ k, k < n ∧ σ 0 k ≠ 0 ∧ (g = k ∨ σ 2 k = nI g ∨ σ 3 k = nI g))
theorem zUsS_no {σ : zS} {w : Int64} {n : Nat} (h : zUsS σ w n) (hn : σ 0 n = 0) : zUsS σ w (n + 1) := fun g hg => by
  rw [h g hg, zEx_succ]
  exact ⟨Or.inl, fun z => z.elim id (fun u => absurd hn u.1)⟩
theorem zUsS_yes {σ : zS} {w : Int64} {n a b : Nat} {u v t : Int32} (h : zUsS σ w n) (hn : σ 0 n ≠ 0) (hn2 : n < 64) (hu : u = nI n) (hv : v = σ 2 n) (ht : t = σ 3 n) (ha : σ 2 n = nI a) (ha2 : a < 64) (hb : σ 3 n = nI b) (hb2 : b < 64) : zUsS σ (w ||| (((1 : Int64) <<< (u.toInt64 &&& 63)) ||| ((1 : Int64) <<< (v.toInt64 &&& 63)) ||| ((1 : Int64) <<< (t.toInt64 &&& 63)))) (n + 1) := fun g hg => by
  rw [zlbit_or, zlbit_or, zlbit_or, hu, hv, ht, ha, hb, show ((1 : Int64) <<< ((nI n).toInt64 &&& 63)) = zlSh n from rfl, show ((1 : Int64) <<< ((nI a).toInt64 &&& 63)) = zlSh a from rfl, show ((1 : Int64) <<< ((nI b).toInt64 &&& 63)) = zlSh b from rfl, zlbit_sh ha2 hg, zlbit_sh hb2 hg, zlbit_sh hn2 hg, Bool.or_eq_true, Bool.or_eq_true, Bool.or_eq_true, h g hg, zEx_succ, decide_eq_true_eq, decide_eq_true_eq, decide_eq_true_eq]
  have e1 : (g = a) ↔ nI a = nI g := ⟨fun z => by rw [z], fun z => ((nI_eq (by omega) (by omega)).mp z).symm⟩
  have e2 : (g = b) ↔ nI b = nI g := ⟨fun z => by rw [z], fun z => ((nI_eq (by omega) (by omega)).mp z).symm⟩
  rw [e1, e2]
  constructor
  · rintro (z | (z | z) | z)
    · exact Or.inl z
    · exact Or.inr ⟨hn, Or.inl z⟩
    · exact Or.inr ⟨hn, Or.inr (Or.inl (ha.trans z))⟩
    · exact Or.inr ⟨hn, Or.inr (Or.inr (hb.trans z))⟩
  · rintro (z | ⟨_, z | z | z⟩)
    · exact Or.inl z
    · exact Or.inr (Or.inl (Or.inl z))
    · exact Or.inr (Or.inl (Or.inr (ha.symm.trans z)))
    · exact Or.inr (Or.inr (hb.symm.trans z))
theorem zUsS_0 {σ : zS} : zUsS σ 0 0 := fun g hg => by
  rw [zlbit_0]
  exact ⟨fun z => (by cases z), fun ⟨k, h1, _⟩ => absurd h1 (by omega)⟩
theorem zUsS_f {σ : zS} {w : Int64} {g : Nat} (h : zUsS σ w 41) (hg : g < 41) : ¬ zlbit w g = true ↔ zFreeN σ g 41 := by
  rw [h g (by omega)]
  constructor
  · intro z
    refine ⟨?_, fun k hk u => z ⟨k, hk, u.1, Or.inr u.2⟩⟩
    by_cases h0 : σ 0 g = 0
    · exact h0
    · exact absurd ⟨g, hg, h0, Or.inl rfl⟩ z
  · rintro ⟨z1, z2⟩ ⟨k, h1, h2, h3⟩
    rcases h3 with rfl | h3
    · exact h2 z1
    · exact z2 k h1 ⟨h2, h3⟩
theorem zFreeV_some {σ : zS} {b : Nat} (hb : b < 41) (h1 : 1 ≤ b) (h2 : zFreeN σ b 41) (h3 : ∀ k, 1 ≤ k → k < b → ¬ zFreeN σ k 41) : zFreeV σ = nI b := by
  have h9 : (List.range 41).find? (fun k => decide (1 ≤ k ∧ zFreeN σ k 41)) = some b :=
    zFind_some hb (decide_eq_true ⟨h1, h2⟩) (fun k hk => decide_eq_false (fun q => h3 k q.1 hk q.2))
  unfold zFreeV
  rw [h9]
theorem zFreeV_none {σ : zS} (h : ∀ k, 1 ≤ k → k < 41 → ¬ zFreeN σ k 41) : zFreeV σ = -1 := by
  have h9 : (List.range 41).find? (fun k => decide (1 ≤ k ∧ zFreeN σ k 41)) = none := by
    rw [List.find?_eq_none]
    intro k hk
    rw [decide_eq_true_eq]
    exact fun z => h k z.1 (List.mem_range.mp hk) z.2
  unfold zFreeV
  rw [h9]
theorem fl_X2_lowestFreePid_11 : Cond.fieldLink RX2 11 "Signalpost" "table" "[LSignalpost$Proc;" ∈ wsX2_lowestFreePid := by decide +kernel
theorem fl_X2_lowestFreePid_151 : Cond.fieldLink RX2 151 "Signalpost$Proc" "pid" "I" ∈ wsX2_lowestFreePid := by decide +kernel
theorem fl_X2_lowestFreePid_103 : Cond.fieldLink RX2 103 "Signalpost$Proc" "group" "I" ∈ wsX2_lowestFreePid := by decide +kernel
theorem fl_X2_lowestFreePid_106 : Cond.fieldLink RX2 106 "Signalpost$Proc" "session" "I" ∈ wsX2_lowestFreePid := by decide +kernel
theorem in_X2_lowestFreePid_X1 : ∀ w ∈ u_ws RX1 TX1 20, w ∈ wsX2_lowestFreePid := by decide +kernel
theorem in_X2_lowestFreePid_X2 : ∀ w ∈ u_ws RX2 TX2 4, w ∈ wsX2_lowestFreePid := by decide +kernel
set_option maxHeartbeats 4000000 in
set_option maxRecDepth 100000 in
theorem c_X2_lowestFreePid (l : Launch) (D : va_G) {B G : zG} {x : Nat} {σ : zS} {q : List zEv} {h cap : Nat} {tb ev ka pa : Nat} {T : Nat → Option Nat} {F : Nat → Nat → Int32} {fk fp : Nat → Int32} {ck cp : Int32}  (hC : zClsB B x σ q h cap G tb ev ka pa T F fk fp ck cp) (hH : zHas σ) : zMet D l yX2_lowestFreePid wsX2_lowestFreePid ({ frames := 1, cells := 0, slots := 0, locals := 22 } : Room) [.ref x] G (fun v G9 => v = some (.int (zFreeV σ)) ∧ G9 = G) := by
  refine zMet_of (cc := cX2_lowestFreePid) (maxL := 7) (ret := (some .int)) (by decide) rfl (Nat.le_of_ble_eq_true rfl) ?_
  intro p e s m args below meth c C hmn
  have hgr : ∀ i, i < 41 → σ 0 i ≠ 0 → σ 2 i = nI (pn (σ 2 i)) := fun i hi h0 => by
    obtain ⟨g, h1, h2, h3⟩ := (hH.1 i hi h0).2.1
    rw [h1, show pn (nI g) = g from nI_clamp (by omega)]
  have hgl : ∀ i, i < 41 → σ 0 i ≠ 0 → pn (σ 2 i) < 64 := fun i hi h0 => by
    obtain ⟨g, h1, h2, h3⟩ := (hH.1 i hi h0).2.1
    rw [h1, show pn (nI g) = g from nI_clamp (by omega)]
    omega
  have hsr : ∀ i, i < 41 → σ 0 i ≠ 0 → σ 3 i = nI (pn (σ 3 i)) := fun i hi h0 => by
    obtain ⟨g, h1, h2, h3⟩ := (hH.1 i hi h0).2.2
    rw [h1, show pn (nI g) = g from nI_clamp (by omega)]
  have hsl : ∀ i, i < 41 → σ 0 i ≠ 0 → pn (σ 3 i) < 64 := fun i hi h0 => by
    obtain ⟨g, h1, h2, h3⟩ := (hH.1 i hi h0).2.2
    rw [h1, show pn (nI g) = g from nI_clamp (by omega)]
    omega
  have loop : ∀ (n i : Nat) (w9 : Int64), i + n = 41 → zUsS σ w9 i → zV p l e ({ frames := 1, cells := 0, slots := 0, locals := 22 } : Room) s m args below meth c D (zA G s.heap.size) 0 0 (zZ below D G (fun v G9 => v = some (.int (zFreeV σ)) ∧ G9 = G) args s ({ frames := 1, cells := 0, slots := 0, locals := 22 } : Room)) G 14 [some (.ref x), some (.long w9), none, some (.ref tb), some (.int (nI 41)), some (.int (nI (i))), none] [] := by
    intro n
    induction n with
    | zero =>
      intro i w9 hi hinv
      have hi41 : i = 41 := by omega
      subst hi41
      refine zz_iload (pc := 14) C dX2_lowestFreePid_14 rfl ?_
      refine zz_iload (pc := 16) C dX2_lowestFreePid_16 rfl ?_
      refine zz_icmp_ge (pc := 18) C (tgt := 64) dX2_lowestFreePid_18 (by decide) (fun hc18 => ?_) (fun hc18 => ?_)
      · refine zz_iconst (pc := 64) C (v := 1) (by decide) dX2_lowestFreePid_64 ?_
        refine zz_istore_n (pc := 65) C dX2_lowestFreePid_65 (Nat.le_of_ble_eq_true rfl) ?_
        have loop2 : ∀ (n2 j : Nat), j + n2 = 41 → 1 ≤ j → (∀ k, 1 ≤ k → k < j → ¬ zFreeN σ k 41) → zV p l e ({ frames := 1, cells := 0, slots := 0, locals := 22 } : Room) s m args below meth c D (zA G s.heap.size) 0 0 (zZ below D G (fun v G9 => v = some (.int (zFreeV σ)) ∧ G9 = G) args s ({ frames := 1, cells := 0, slots := 0, locals := 22 } : Room)) G 66 [some (.ref x), some (.long w9), none, some (.int (nI (j))), none, none, none] [] := by
          intro n2
          induction n2 with
          | zero =>
            intro j hj h1 hlow
            have hj41 : j = 41 := by omega
            subst hj41
            refine zz_iload_n (pc := 66) C dX2_lowestFreePid_66 rfl ?_
            refine zz_bipush (pc := 67) C (v := 40) (by decide) dX2_lowestFreePid_67 ?_
            refine zz_icmp_gt (pc := 69) C (tgt := 88) dX2_lowestFreePid_69 (by decide) (fun hc69 => ?_) (fun hc69 => ?_)
            · refine zz_iconst (pc := 88) C (v := -1) (by decide) dX2_lowestFreePid_88 ?_
              first
                | exact zz_ireturn (pc := 89) C dX2_lowestFreePid_89 (by first | rfl | decide | exact zb_nar) (Nat.le_refl _) (Nat.le_refl _) ⟨zvi (zFreeV_none (fun k h1 h2 => hlow k h1 h2)).symm, rfl⟩
            · exact absurd z41 hc69
          | succ n2 ih2 =>
            intro j hj h1 hlow
            refine zz_iload_n (pc := 66) C dX2_lowestFreePid_66 rfl ?_
            refine zz_bipush (pc := 67) C (v := 40) (by decide) dX2_lowestFreePid_67 ?_
            refine zz_icmp_gt (pc := 69) C (tgt := 88) dX2_lowestFreePid_69 (by decide) (fun hc69 => ?_) (fun hc69 => ?_)
            · exact absurd hc69 (z40 (by omega))
            · refine zz_lload_n (pc := 72) C dX2_lowestFreePid_72 rfl ?_
              refine zz_iload_n (pc := 73) C dX2_lowestFreePid_73 rfl ?_
              refine zz_callS (pc := 74) C (c_X2_contains l D (G := _) (w := w9) (s9 := j) (by omega)) gX2_lowestFreePid_X2_contains rfl 2 (by decide +kernel) ⟨Nat.le_of_ble_eq_true rfl, Nat.le_of_ble_eq_true rfl⟩ rfl dX2_lowestFreePid_74 rfl (Nat.le_of_ble_eq_true rfl) rfl ⟨Nat.le_of_ble_eq_true rfl, Nat.le_of_ble_eq_true rfl⟩ ?_
              rintro v G9 ⟨rfl, rfl⟩
              refine zz_if_ne (pc := 77) C (tgt := 82) dX2_lowestFreePid_77 (by decide) (fun hc77 => ?_) (fun hc77 => ?_)
              · refine zz_iinc (pc := 82) C dX2_lowestFreePid_82 rfl ?_
                refine zz_goto (pc := 85) C (tgt := 66) dX2_lowestFreePid_85 (by decide) ?_
                exact zV.less (L' := [some (.ref x), some (.long w9), none, some (.int (nI (j + 1))), none, none, none]) ⟨rfl, rfl, zvi (z1i j), trivial⟩ (ih2 (j + 1) (by omega) (by omega) (fun k h1 h2 => by
            by_cases hk : k = j
            · rw [hk]; exact fun z => (zUsS_f hinv (by omega)).mpr z (zb_ne.mp hc77)
            · exact hlow k h1 (by omega)))
              · refine zz_iload_n (pc := 80) C dX2_lowestFreePid_80 rfl ?_
                first
                  | exact zz_ireturn (pc := 81) C dX2_lowestFreePid_81 (by first | rfl | decide | exact zb_nar) (Nat.le_refl _) (Nat.le_refl _) ⟨zvi (zFreeV_some (by omega) (by omega) ((zUsS_f hinv (by omega)).mp (zbn hc77)) (fun k h1 h2 => hlow k h1 h2)).symm, rfl⟩
        exact zV.less (L' := [some (.ref x), some (.long w9), none, some (.int (nI (1))), none, none, none]) ⟨rfl, rfl, zvi rfl, trivial⟩ (loop2 40 1 rfl (Nat.le_refl _) (fun k h1 h2 => absurd h1 (by omega)))
      · exact absurd z4141 hc18
    | succ n ih =>
      intro i w9 hi hinv
      refine zz_iload (pc := 14) C dX2_lowestFreePid_14 rfl ?_
      refine zz_iload (pc := 16) C dX2_lowestFreePid_16 rfl ?_
      refine zz_icmp_ge (pc := 18) C (tgt := 64) dX2_lowestFreePid_18 (by decide) (fun hc18 => ?_) (fun hc18 => ?_)
      · exact absurd hc18 (z41i (by omega))
      · refine zz_aload_n (pc := 21) C dX2_lowestFreePid_21 rfl ?_
        refine zz_iload (pc := 22) C dX2_lowestFreePid_22 rfl ?_
        refine zz_tald (pc := 24) C hC dX2_lowestFreePid_24 (k := i) (by omega) rfl (fun hno => ?_) (fun a9 hTa hth hGa hPF => ?_)
        · skip
          refine zz_astoreN (pc := 25) C dX2_lowestFreePid_25 (Nat.le_of_ble_eq_true rfl) ?_
          refine zz_aloadN (pc := 27) C dX2_lowestFreePid_27 rfl ?_
          refine zz_ifnullN (pc := 29) C (tgt := 58) dX2_lowestFreePid_29 (by decide) ?_
          refine zz_iinc (pc := 58) C dX2_lowestFreePid_58 rfl ?_
          refine zz_goto (pc := 61) C (tgt := 14) dX2_lowestFreePid_61 (by decide) ?_
          first
            | exact zV.less (L' := [some (.ref x), some (.long w9), none, some (.ref tb), some (.int (nI 41)), some (.int (nI (i + 1))), none]) ⟨rfl, rfl, rfl, rfl, zvi (z1i i), trivial⟩ (ih (i + 1) _ (by omega) (zUsS_no hinv hno))
            | exact zV.less (L' := [some (.ref x), some (.long (w9 ||| (((1 : Int64) <<< ((F i 0).toInt64 &&& 63)) ||| ((1 : Int64) <<< ((F i 2).toInt64 &&& 63)) ||| ((1 : Int64) <<< ((F i 3).toInt64 &&& 63))))), none, some (.ref tb), some (.int (nI 41)), some (.int (nI (i + 1))), none]) ⟨rfl, rfl, rfl, rfl, zvi (z1i i), trivial⟩ (ih (i + 1) _ (by omega) (zUsS_yes hinv hth (by omega) hPF.1 hPF.2.1 hPF.2.2.1 (hgr i (by omega) hth) (hgl i (by omega) hth) (hsr i (by omega) hth) (hsl i (by omega) hth)))
        · skip
          refine zz_astore (pc := 25) C dX2_lowestFreePid_25 (Nat.le_of_ble_eq_true rfl) ?_
          refine zz_aload (pc := 27) C dX2_lowestFreePid_27 rfl ?_
          refine zz_ifnull (pc := 29) C dX2_lowestFreePid_29 ?_
          refine zz_lload_n (pc := 32) C dX2_lowestFreePid_32 rfl ?_
          refine zz_lconst (pc := 33) C (v := 1) rfl dX2_lowestFreePid_33 ?_
          refine zz_aload (pc := 34) C dX2_lowestFreePid_34 rfl ?_
          refine zz_get (pc := 36) C in_X2_lowestFreePid_X1 (ci := 1) rfl 0 (by decide) (fl_X2_lowestFreePid_151) rfl dX2_lowestFreePid_36 hGa rfl ?_
          refine zz_lshl (pc := 39) C dX2_lowestFreePid_39 ?_
          refine zz_lconst (pc := 40) C (v := 1) rfl dX2_lowestFreePid_40 ?_
          refine zz_aload (pc := 41) C dX2_lowestFreePid_41 rfl ?_
          refine zz_get (pc := 43) C in_X2_lowestFreePid_X1 (ci := 1) rfl 2 (by decide) (fl_X2_lowestFreePid_103) rfl dX2_lowestFreePid_43 hGa rfl ?_
          refine zz_lshl (pc := 46) C dX2_lowestFreePid_46 ?_
          refine zz_lor (pc := 47) C dX2_lowestFreePid_47 ?_
          refine zz_lconst (pc := 48) C (v := 1) rfl dX2_lowestFreePid_48 ?_
          refine zz_aload (pc := 49) C dX2_lowestFreePid_49 rfl ?_
          refine zz_get (pc := 51) C in_X2_lowestFreePid_X1 (ci := 1) rfl 3 (by decide) (fl_X2_lowestFreePid_106) rfl dX2_lowestFreePid_51 hGa rfl ?_
          refine zz_lshl (pc := 54) C dX2_lowestFreePid_54 ?_
          refine zz_lor (pc := 55) C dX2_lowestFreePid_55 ?_
          refine zz_lor (pc := 56) C dX2_lowestFreePid_56 ?_
          refine zz_lstore_n (pc := 57) C dX2_lowestFreePid_57 (Nat.le_of_ble_eq_true rfl) ?_
          refine zz_iinc (pc := 58) C dX2_lowestFreePid_58 rfl ?_
          refine zz_goto (pc := 61) C (tgt := 14) dX2_lowestFreePid_61 (by decide) ?_
          first
            | exact zV.less (L' := [some (.ref x), some (.long w9), none, some (.ref tb), some (.int (nI 41)), some (.int (nI (i + 1))), none]) ⟨rfl, rfl, rfl, rfl, zvi (z1i i), trivial⟩ (ih (i + 1) _ (by omega) (zUsS_no hinv hno))
            | exact zV.less (L' := [some (.ref x), some (.long (w9 ||| (((1 : Int64) <<< ((F i 0).toInt64 &&& 63)) ||| ((1 : Int64) <<< ((F i 2).toInt64 &&& 63)) ||| ((1 : Int64) <<< ((F i 3).toInt64 &&& 63))))), none, some (.ref tb), some (.int (nI 41)), some (.int (nI (i + 1))), none]) ⟨rfl, rfl, rfl, rfl, zvi (z1i i), trivial⟩ (ih (i + 1) _ (by omega) (zUsS_yes hinv hth (by omega) hPF.1 hPF.2.1 hPF.2.2.1 (hgr i (by omega) hth) (hgl i (by omega) hth) (hsr i (by omega) hth) (hsl i (by omega) hth)))
  refine zz_lconst (pc := 0) C (v := 0) rfl dX2_lowestFreePid_0 ?_
  refine zz_lstore_n (pc := 1) C dX2_lowestFreePid_1 (Nat.le_of_ble_eq_true rfl) ?_
  refine zz_aload_n (pc := 2) C dX2_lowestFreePid_2 rfl ?_
  refine zz_get (pc := 3) C in_X2_lowestFreePid_X2 (ci := 2) rfl 0 (by decide) (fl_X2_lowestFreePid_11) rfl dX2_lowestFreePid_3 hC.2.1 rfl ?_
  refine zz_astore_n (pc := 6) C dX2_lowestFreePid_6 (Nat.le_of_ble_eq_true rfl) ?_
  refine zz_aload_n (pc := 7) C dX2_lowestFreePid_7 rfl ?_
  refine zz_tlen (pc := 8) C hC dX2_lowestFreePid_8 ?_
  refine zz_istore (pc := 9) C dX2_lowestFreePid_9 (Nat.le_of_ble_eq_true rfl) ?_
  refine zz_iconst (pc := 11) C (v := 0) (by decide) dX2_lowestFreePid_11 ?_
  refine zz_istore (pc := 12) C dX2_lowestFreePid_12 (Nat.le_of_ble_eq_true rfl) ?_
  exact zV.less (L' := [some (.ref x), some (.long 0), none, some (.ref tb), some (.int (nI 41)), some (.int (nI (0))), none]) ⟨rfl, rfl, rfl, rfl, rfl, trivial⟩ (loop 41 0 0 rfl zUsS_0)
abbrev zMay (σ : zS) (p t : Nat) : Prop := (t = p ∨ σ 1 t = nI p) ∧ σ 4 t = 0 ∧ σ 3 t ≠ nI t ∧ σ 3 t = σ 3 p
theorem fl_X2_mayMove_147 : Cond.fieldLink RX2 147 "Signalpost$Proc" "parent" "LSignalpost$Proc;" ∈ wsX2_mayMove := by decide +kernel
theorem fl_X2_mayMove_194 : Cond.fieldLink RX2 194 "Signalpost$Proc" "zombie" "Z" ∈ wsX2_mayMove := by decide +kernel
theorem fl_X2_mayMove_106 : Cond.fieldLink RX2 106 "Signalpost$Proc" "session" "I" ∈ wsX2_mayMove := by decide +kernel
theorem in_X2_mayMove_X1 : ∀ w ∈ u_ws RX1 TX1 20, w ∈ wsX2_mayMove := by decide +kernel
set_option maxHeartbeats 4000000 in
set_option maxRecDepth 100000 in
theorem c_X2_mayMove (l : Launch) (D : va_G) {B G : zG} {x : Nat} {σ : zS} {q : List zEv} {h cap : Nat} {tb ev ka pa : Nat} {T : Nat → Option Nat} {F : Nat → Nat → Int32} {fk fp : Nat → Int32} {ck cp : Int32} {p9 t9 ap at9 : Nat} (hC : zClsB B x σ q h cap G tb ev ka pa T F fk fp ck cp) (hH : zHas σ) (hp : p9 < 41) (ht : t9 < 41) (hTp : T p9 = some ap) (hTt : T t9 = some at9) : zMet D l yX2_mayMove wsX2_mayMove ({ frames := 1, cells := 0, slots := 0, locals := 20 } : Room) [.ref ap, .ref at9] G (fun v G9 => v = some (.int (zb (zMay σ p9 t9))) ∧ G9 = G) := by
  refine zMet_of (cc := cX2_mayMove) (maxL := 2) (ret := (some .boolean)) (by decide) rfl (Nat.le_of_ble_eq_true rfl) ?_
  intro p e s m args below meth c C hmn
  obtain ⟨hpt, hGp, hPp⟩ := hC.th hp hTp
  obtain ⟨htt, hGt, hPt⟩ := hC.th ht hTt
  have k13 : (t9 = p9 ∨ σ 1 t9 = nI p9) → zV p l e ({ frames := 1, cells := 0, slots := 0, locals := 20 } : Room) s m args below meth c D (zA G s.heap.size) 0 0 (zZ below D G (fun v G9 => v = some (.int (zb (zMay σ p9 t9))) ∧ G9 = G) args s ({ frames := 1, cells := 0, slots := 0, locals := 20 } : Room)) G 13 [some (.ref ap), some (.ref at9)] [] := by
    intro hA
    refine zz_aload_n (pc := 13) C dX2_mayMove_13 rfl ?_
    refine zz_get (pc := 14) C in_X2_mayMove_X1 (ci := 1) rfl 5 (by decide) (fl_X2_mayMove_194) rfl dX2_mayMove_14 hGt rfl ?_
    refine zz_if_ne (pc := 17) C (tgt := 42) dX2_mayMove_17 (by decide) (fun hc17 => ?_) (fun hc17 => ?_)
    · refine zz_iconst (pc := 42) C (v := 0) (by decide) dX2_mayMove_42 ?_
      first
        | exact zz_ireturn (pc := 43) C dX2_mayMove_43 (by first | rfl | decide | exact zb_nar) (Nat.le_refl _) (Nat.le_refl _) ⟨zvf (fun z => absurd z.2.1 (fun u => hc17 (hPt.2.2.2.2.1.trans u))), rfl⟩
        | exact zz_ireturn (pc := 43) C dX2_mayMove_43 (by first | rfl | decide | exact zb_nar) (Nat.le_refl _) (Nat.le_refl _) ⟨zvf (fun z => zb_ne.mp hc24 |> fun u => z.2.2.1 (hPt.2.2.1.symm.trans (u.symm.trans hPt.1))), rfl⟩
        | exact zz_ireturn (pc := 43) C dX2_mayMove_43 (by first | rfl | decide | exact zb_nar) (Nat.le_refl _) (Nat.le_refl _) ⟨zvf (fun z => hc35 (hPt.2.2.1.trans (z.2.2.2.trans hPp.2.2.1.symm))), rfl⟩
        | exact zz_ireturn (pc := 43) C dX2_mayMove_43 (by first | rfl | decide | exact zb_nar) (Nat.le_refl _) (Nat.le_refl _) ⟨zvt ⟨hA, hPt.2.2.2.2.1.symm.trans (Classical.not_not.mp hc17), fun u => zbn hc24 (hPt.1.trans (u.symm.trans hPt.2.2.1.symm)), hPt.2.2.1.symm.trans ((Classical.not_not.mp hc35).trans hPp.2.2.1)⟩, rfl⟩
    · refine zz_aload_n (pc := 20) C dX2_mayMove_20 rfl ?_
      refine zz_callV (pc := 21) C (c_X1_leadsSession l D hGt) gX2_mayMove_X1_leadsSession rfl 0 (by decide +kernel) ⟨Nat.le_of_ble_eq_true rfl, Nat.le_of_ble_eq_true rfl⟩ hGt (ci := 1) rfl rfl rfl dX2_mayMove_21 rfl (Nat.le_of_ble_eq_true rfl) rfl ⟨Nat.le_of_ble_eq_true rfl, Nat.le_of_ble_eq_true rfl⟩ ?_
      rintro v G9 ⟨rfl, rfl⟩
      refine zz_if_ne (pc := 24) C (tgt := 42) dX2_mayMove_24 (by decide) (fun hc24 => ?_) (fun hc24 => ?_)
      · refine zz_iconst (pc := 42) C (v := 0) (by decide) dX2_mayMove_42 ?_
        first
          | exact zz_ireturn (pc := 43) C dX2_mayMove_43 (by first | rfl | decide | exact zb_nar) (Nat.le_refl _) (Nat.le_refl _) ⟨zvf (fun z => absurd z.2.1 (fun u => hc17 (hPt.2.2.2.2.1.trans u))), rfl⟩
          | exact zz_ireturn (pc := 43) C dX2_mayMove_43 (by first | rfl | decide | exact zb_nar) (Nat.le_refl _) (Nat.le_refl _) ⟨zvf (fun z => zb_ne.mp hc24 |> fun u => z.2.2.1 (hPt.2.2.1.symm.trans (u.symm.trans hPt.1))), rfl⟩
          | exact zz_ireturn (pc := 43) C dX2_mayMove_43 (by first | rfl | decide | exact zb_nar) (Nat.le_refl _) (Nat.le_refl _) ⟨zvf (fun z => hc35 (hPt.2.2.1.trans (z.2.2.2.trans hPp.2.2.1.symm))), rfl⟩
          | exact zz_ireturn (pc := 43) C dX2_mayMove_43 (by first | rfl | decide | exact zb_nar) (Nat.le_refl _) (Nat.le_refl _) ⟨zvt ⟨hA, hPt.2.2.2.2.1.symm.trans (Classical.not_not.mp hc17), fun u => zbn hc24 (hPt.1.trans (u.symm.trans hPt.2.2.1.symm)), hPt.2.2.1.symm.trans ((Classical.not_not.mp hc35).trans hPp.2.2.1)⟩, rfl⟩
      · refine zz_aload_n (pc := 27) C dX2_mayMove_27 rfl ?_
        refine zz_get (pc := 28) C in_X2_mayMove_X1 (ci := 1) rfl 3 (by decide) (fl_X2_mayMove_106) rfl dX2_mayMove_28 hGt rfl ?_
        refine zz_aload_n (pc := 31) C dX2_mayMove_31 rfl ?_
        refine zz_get (pc := 32) C in_X2_mayMove_X1 (ci := 1) rfl 3 (by decide) (fl_X2_mayMove_106) rfl dX2_mayMove_32 hGp rfl ?_
        refine zz_icmp_ne (pc := 35) C (tgt := 42) dX2_mayMove_35 (by decide) (fun hc35 => ?_) (fun hc35 => ?_)
        · refine zz_iconst (pc := 42) C (v := 0) (by decide) dX2_mayMove_42 ?_
          first
            | exact zz_ireturn (pc := 43) C dX2_mayMove_43 (by first | rfl | decide | exact zb_nar) (Nat.le_refl _) (Nat.le_refl _) ⟨zvf (fun z => absurd z.2.1 (fun u => hc17 (hPt.2.2.2.2.1.trans u))), rfl⟩
            | exact zz_ireturn (pc := 43) C dX2_mayMove_43 (by first | rfl | decide | exact zb_nar) (Nat.le_refl _) (Nat.le_refl _) ⟨zvf (fun z => zb_ne.mp hc24 |> fun u => z.2.2.1 (hPt.2.2.1.symm.trans (u.symm.trans hPt.1))), rfl⟩
            | exact zz_ireturn (pc := 43) C dX2_mayMove_43 (by first | rfl | decide | exact zb_nar) (Nat.le_refl _) (Nat.le_refl _) ⟨zvf (fun z => hc35 (hPt.2.2.1.trans (z.2.2.2.trans hPp.2.2.1.symm))), rfl⟩
            | exact zz_ireturn (pc := 43) C dX2_mayMove_43 (by first | rfl | decide | exact zb_nar) (Nat.le_refl _) (Nat.le_refl _) ⟨zvt ⟨hA, hPt.2.2.2.2.1.symm.trans (Classical.not_not.mp hc17), fun u => zbn hc24 (hPt.1.trans (u.symm.trans hPt.2.2.1.symm)), hPt.2.2.1.symm.trans ((Classical.not_not.mp hc35).trans hPp.2.2.1)⟩, rfl⟩
        · refine zz_iconst (pc := 38) C (v := 1) (by decide) dX2_mayMove_38 ?_
          refine zz_goto (pc := 39) C (tgt := 43) dX2_mayMove_39 (by decide) ?_
          first
            | exact zz_ireturn (pc := 43) C dX2_mayMove_43 (by first | rfl | decide | exact zb_nar) (Nat.le_refl _) (Nat.le_refl _) ⟨zvf (fun z => absurd z.2.1 (fun u => hc17 (hPt.2.2.2.2.1.trans u))), rfl⟩
            | exact zz_ireturn (pc := 43) C dX2_mayMove_43 (by first | rfl | decide | exact zb_nar) (Nat.le_refl _) (Nat.le_refl _) ⟨zvf (fun z => zb_ne.mp hc24 |> fun u => z.2.2.1 (hPt.2.2.1.symm.trans (u.symm.trans hPt.1))), rfl⟩
            | exact zz_ireturn (pc := 43) C dX2_mayMove_43 (by first | rfl | decide | exact zb_nar) (Nat.le_refl _) (Nat.le_refl _) ⟨zvf (fun z => hc35 (hPt.2.2.1.trans (z.2.2.2.trans hPp.2.2.1.symm))), rfl⟩
            | exact zz_ireturn (pc := 43) C dX2_mayMove_43 (by first | rfl | decide | exact zb_nar) (Nat.le_refl _) (Nat.le_refl _) ⟨zvt ⟨hA, hPt.2.2.2.2.1.symm.trans (Classical.not_not.mp hc17), fun u => zbn hc24 (hPt.1.trans (u.symm.trans hPt.2.2.1.symm)), hPt.2.2.1.symm.trans ((Classical.not_not.mp hc35).trans hPp.2.2.1)⟩, rfl⟩
  by_cases ht1 : t9 = 1
  · subst ht1
    rw [zPar_1] at hGt
    refine zz_aload_n (pc := 0) C dX2_mayMove_0 rfl ?_
    refine zz_aload_n (pc := 1) C dX2_mayMove_1 rfl ?_
    refine zz_acmp_eq (pc := 2) C (tgt := 13) dX2_mayMove_2 (by decide) (fun hc2 => ?_) (fun hc2 => ?_)
    · exact k13 (Or.inl (hC.inj ht hp hTt (by rw [hc2]; exact hTp)))
    · refine zz_aload_n (pc := 5) C dX2_mayMove_5 rfl ?_
      refine zz_get (pc := 6) C in_X2_mayMove_X1 (ci := 1) rfl 1 (by decide) (fl_X2_mayMove_147) rfl dX2_mayMove_6 hGt rfl ?_
      refine zz_aload_n (pc := 9) C dX2_mayMove_9 rfl ?_
      refine zz_acmpN_ne (pc := 10) C (tgt := 42) dX2_mayMove_10 (by decide) ?_
      refine zz_iconst (pc := 42) C (v := 0) (by decide) dX2_mayMove_42 ?_
      first
        | exact zz_ireturn (pc := 43) C dX2_mayMove_43 (by first | rfl | decide | exact zb_nar) (Nat.le_refl _) (Nat.le_refl _) ⟨zvf (fun z => z.1.elim (fun u => hc2 (by rw [u, hTp] at hTt; exact (Option.some.inj hTt).symm)) (fun u => by rw [hH.2.2.2] at u; exact absurd u.symm (znm1 hp))), rfl⟩
  · obtain ⟨j, hj, hj1, hj2, hj3⟩ := hH.2.1 t9 ht htt ht1
    obtain ⟨b, hTb, hGb, hPb⟩ := hC.2.2.2.2.2 j hj2 hj3
    rw [zPar_n ht1 hj hj2 hTb] at hGt
    refine zz_aload_n (pc := 0) C dX2_mayMove_0 rfl ?_
    refine zz_aload_n (pc := 1) C dX2_mayMove_1 rfl ?_
    refine zz_acmp_eq (pc := 2) C (tgt := 13) dX2_mayMove_2 (by decide) (fun hc2 => ?_) (fun hc2 => ?_)
    · first
        | exact k13 (Or.inl (hC.inj ht hp hTt (by rw [hc2]; exact hTp)))
        | exact k13 (Or.inr (by rw [hj, hC.inj hj2 hp hTb (by rw [Classical.not_not.mp hc10]; exact hTp)]))
    · refine zz_aload_n (pc := 5) C dX2_mayMove_5 rfl ?_
      refine zz_get (pc := 6) C in_X2_mayMove_X1 (ci := 1) rfl 1 (by decide) (fl_X2_mayMove_147) rfl dX2_mayMove_6 hGt rfl ?_
      refine zz_aload_n (pc := 9) C dX2_mayMove_9 rfl ?_
      refine zz_acmp_ne (pc := 10) C (tgt := 42) dX2_mayMove_10 (by decide) (fun hc10 => ?_) (fun hc10 => ?_)
      · refine zz_iconst (pc := 42) C (v := 0) (by decide) dX2_mayMove_42 ?_
        first
          | exact zz_ireturn (pc := 43) C dX2_mayMove_43 (by first | rfl | decide | exact zb_nar) (Nat.le_refl _) (Nat.le_refl _) ⟨zvf (fun z => z.1.elim (fun u => hc2 (by rw [u, hTp] at hTt; exact (Option.some.inj hTt).symm)) (fun u => hc10 (by rw [hj] at u; rw [(nI_eq (by omega) (by omega)).mp u, hTp] at hTb; exact (Option.some.inj hTb).symm))), rfl⟩
      · first
          | exact k13 (Or.inl (hC.inj ht hp hTt (by rw [hc2]; exact hTp)))
          | exact k13 (Or.inr (by rw [hj, hC.inj hj2 hp hTb (by rw [Classical.not_not.mp hc10]; exact hTp)]))
