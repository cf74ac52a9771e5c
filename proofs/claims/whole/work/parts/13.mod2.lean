theorem fl_X3_heir_13 : Cond.fieldLink RX3 13 "SignalpostModel" "parent" "[I" ∈ wsX3_heir := by decide +kernel
theorem fl_X3_heir_50 : Cond.fieldLink RX3 50 "SignalpostModel" "isReaper" "[Z" ∈ wsX3_heir := by decide +kernel
theorem fl_X3_heir_23 : Cond.fieldLink RX3 23 "SignalpostModel" "isZombie" "[Z" ∈ wsX3_heir := by decide +kernel
theorem in_X3_heir_X3 : ∀ w ∈ u_ws RX3 TX3 29, w ∈ wsX3_heir := by decide +kernel
set_option maxHeartbeats 4000000 in
set_option maxRecDepth 100000 in
theorem c_X3_heir (l : Launch) (D : va_G) {B G : zG} {y : Nat} {ma : Nat → Nat} {r : zS} {p9 j n : Nat} (hR : zModR B y ma r G) (hp : p9 < 41) (hj : r 1 p9 = nI j) (ha : zAnc n r j) : zMet D l yX3_heir wsX3_heir ({ frames := 0, cells := 0, slots := 0, locals := 0 } : Room) [.ref y, .int (nI p9)] G (fun v G9 => v = some (.int (nI (zHeir (n + 1) r j))) ∧ G9 = G) := by
  refine zMet_of (cc := cX3_heir) (maxL := 3) (ret := (some .int)) (by decide) rfl (Nat.le_of_ble_eq_true rfl) ?_
  intro p e s m args below meth c C hmn
  have loop : ∀ (d k : Nat), zAnc d r k → zHeir (d + 1) r k = zHeir (n + 1) r j → zV p l e ({ frames := 0, cells := 0, slots := 0, locals := 0 } : Room) s m args below meth c D (zA G s.heap.size) 0 0 (zZ below D G (fun v G9 => v = some (.int (nI (zHeir (n + 1) r j))) ∧ G9 = G) args s ({ frames := 0, cells := 0, slots := 0, locals := 0 } : Room)) G 7 [some (.ref y), some (.int (nI p9)), some (.int (nI k))] [] := by
    intro d
    induction d using Nat.strongRecOn with
    | ind d ih =>
      intro k hk hz
      have hk1 := hk.in
      refine zz_iload_n (pc := 7) C dX3_heir_7 rfl ?_
      refine zz_iconst (pc := 8) C (v := 1) (by decide) dX3_heir_8 ?_
      refine zz_icmp_eq (pc := 9) C (tgt := 40) dX3_heir_9 (by decide) (fun hc9 => ?_) (fun hc9 => ?_)
      · refine zz_iload_n (pc := 40) C dX3_heir_40 rfl ?_
        refine zz_ireturn (pc := 41) C dX3_heir_41 rfl (Nat.le_refl _) (Nat.le_refl _) ⟨?_, rfl⟩
        first
          | (have h9 : k = 1 := (nI_eq (by omega) (by decide)).mp (show nI k = nI 1 from hc9)
             rw [← hz, h9]; rfl)
          | (have h9 : k ≠ 1 := fun q => hc9 (by rw [q]; rfl)
             rw [← hz]; unfold zHeir; rw [if_neg h9, if_pos ⟨hc18, hc27⟩])
      · refine zz_aload_n (pc := 12) C dX3_heir_12 rfl ?_
        refine zz_get (pc := 13) C in_X3_heir_X3 (ci := 3) rfl 13 (by decide) (fl_X3_heir_50) rfl dX3_heir_13 hR.2.1 rfl ?_
        refine zz_iload_n (pc := 16) C dX3_heir_16 rfl ?_
        refine zz_mldz (pc := 17) C hR 13 (by decide) rfl dX3_heir_17 rfl (by show _ < 41; omega) ?_
        refine zz_if_eq (pc := 18) C (tgt := 30) dX3_heir_18 (by decide) (fun hc18 => ?_) (fun hc18 => ?_)
        · refine zz_aload_n (pc := 30) C dX3_heir_30 rfl ?_
          refine zz_get (pc := 31) C in_X3_heir_X3 (ci := 3) rfl 1 (by decide) (fl_X3_heir_13) rfl dX3_heir_31 hR.2.1 rfl ?_
          refine zz_iload_n (pc := 34) C dX3_heir_34 rfl ?_
          refine zz_mld (pc := 35) C hR 1 (by decide) rfl dX3_heir_35 rfl (by show _ < 41; omega) ?_
          refine zz_istore_n (pc := 36) C dX3_heir_36 (Nat.le_of_ble_eq_true rfl) ?_
          refine zz_goto (pc := 37) C (tgt := 7) dX3_heir_37 (by decide) ?_
          have h9 : k ≠ 1 := fun q => hc9 (by rw [q]; rfl)
          cases d with
          | zero => exact absurd hk h9
          | succ d =>
            rcases hk with hk | ⟨a1, a2, a3, k2, a4, a5, a6, a7⟩
            · exact absurd hk h9
            · rw [a4]
              refine ih d (Nat.lt_succ_self d) k2 a7 ?_
              rw [← hz]
              have hno : ¬ (r 13 k ≠ 0 ∧ r 4 k = 0) := by first | exact fun q => q.1 hc18 | exact fun q => hc27 q.2
              rw [show zHeir (d + 1 + 1) r k = zHeir (d + 1) r (pn (r 1 k)) from by conv => lhs; unfold zHeir; rw [if_neg h9, if_neg hno]]
              rw [a4, show pn (nI k2) = k2 from nI_clamp (by omega)]
        · refine zz_aload_n (pc := 21) C dX3_heir_21 rfl ?_
          refine zz_get (pc := 22) C in_X3_heir_X3 (ci := 3) rfl 4 (by decide) (fl_X3_heir_23) rfl dX3_heir_22 hR.2.1 rfl ?_
          refine zz_iload_n (pc := 25) C dX3_heir_25 rfl ?_
          refine zz_mldz (pc := 26) C hR 4 (by decide) rfl dX3_heir_26 rfl (by show _ < 41; omega) ?_
          refine zz_if_eq (pc := 27) C (tgt := 40) dX3_heir_27 (by decide) (fun hc27 => ?_) (fun hc27 => ?_)
          · refine zz_iload_n (pc := 40) C dX3_heir_40 rfl ?_
            refine zz_ireturn (pc := 41) C dX3_heir_41 rfl (Nat.le_refl _) (Nat.le_refl _) ⟨?_, rfl⟩
            first
              | (have h9 : k = 1 := (nI_eq (by omega) (by decide)).mp (show nI k = nI 1 from hc9)
                 rw [← hz, h9]; rfl)
              | (have h9 : k ≠ 1 := fun q => hc9 (by rw [q]; rfl)
                 rw [← hz]; unfold zHeir; rw [if_neg h9, if_pos ⟨hc18, hc27⟩])
          · refine zz_aload_n (pc := 30) C dX3_heir_30 rfl ?_
            refine zz_get (pc := 31) C in_X3_heir_X3 (ci := 3) rfl 1 (by decide) (fl_X3_heir_13) rfl dX3_heir_31 hR.2.1 rfl ?_
            refine zz_iload_n (pc := 34) C dX3_heir_34 rfl ?_
            refine zz_mld (pc := 35) C hR 1 (by decide) rfl dX3_heir_35 rfl (by show _ < 41; omega) ?_
            refine zz_istore_n (pc := 36) C dX3_heir_36 (Nat.le_of_ble_eq_true rfl) ?_
            refine zz_goto (pc := 37) C (tgt := 7) dX3_heir_37 (by decide) ?_
            have h9 : k ≠ 1 := fun q => hc9 (by rw [q]; rfl)
            cases d with
            | zero => exact absurd hk h9
            | succ d =>
              rcases hk with hk | ⟨a1, a2, a3, k2, a4, a5, a6, a7⟩
              · exact absurd hk h9
              · rw [a4]
                refine ih d (Nat.lt_succ_self d) k2 a7 ?_
                rw [← hz]
                have hno : ¬ (r 13 k ≠ 0 ∧ r 4 k = 0) := by first | exact fun q => q.1 hc18 | exact fun q => hc27 q.2
                rw [show zHeir (d + 1 + 1) r k = zHeir (d + 1) r (pn (r 1 k)) from by conv => lhs; unfold zHeir; rw [if_neg h9, if_neg hno]]
                rw [a4, show pn (nI k2) = k2 from nI_clamp (by omega)]
  refine zz_aload_n (pc := 0) C dX3_heir_0 rfl ?_
  refine zz_get (pc := 1) C in_X3_heir_X3 (ci := 3) rfl 1 (by decide) (fl_X3_heir_13) rfl dX3_heir_1 hR.2.1 rfl ?_
  refine zz_iload_n (pc := 4) C dX3_heir_4 rfl ?_
  refine zz_mld (pc := 5) C hR 1 (by decide) rfl dX3_heir_5 rfl (by show _ < 41; omega) ?_
  refine zz_istore_n (pc := 6) C dX3_heir_6 (Nat.le_of_ble_eq_true rfl) ?_
  rw [hj]
  exact loop n j ha rfl
theorem nI_ne {a b : Nat} (ha : a < 2 ^ 31) (hb : b < 2 ^ 31) (h : a ≠ b) : ¬ nI a = nI b := fun q => h ((nI_eq ha hb).mp q)
theorem zHandN_succ {σ : zS} {p h n : Nat} (hn : σ 0 n ≠ 0 ∧ σ 1 n = nI p) : zHandN σ p h (n + 1) = zu (zHandN σ p h n) 1 n (nI h) := by
  funext f k
  simp only [zHandN, zu]
  by_cases hf : f = 1
  · by_cases hk : k = n
    · subst hk; simp [hf, hn]
    · have : (k < n + 1) ↔ k < n := by omega
      simp [hf, hk, this]
  · simp [hf]
theorem zHandN_same {σ : zS} {p h n : Nat} (hn : ¬ (σ 0 n ≠ 0 ∧ σ 1 n = nI p)) : zHandN σ p h (n + 1) = zHandN σ p h n := by
  funext f k
  simp only [zHandN]
  by_cases hk : k = n
  · subst hk
    have e1 : ¬ (f = 1 ∧ k < k + 1 ∧ σ 0 k ≠ 0 ∧ σ 1 k = nI p) := fun q => hn q.2.2
    have e2 : ¬ (f = 1 ∧ k < k ∧ σ 0 k ≠ 0 ∧ σ 1 k = nI p) := fun q => hn q.2.2
    rw [if_neg e1, if_neg e2]
  · have : (k < n + 1) ↔ k < n := by omega
    simp only [this]
theorem zHandN_0 {σ : zS} {p h : Nat} : zHandN σ p h 0 = σ := by
  funext f k
  simp [zHandN]
theorem zHandN_1 {σ : zS} {p h : Nat} (h0 : σ 0 0 = 0) : zHandN σ p h 1 = σ := (zHandN_same (fun q => q.1 h0)).trans zHandN_0
theorem zHandN_off {σ : zS} {p h n f : Nat} (hf : f ≠ 1) : zHandN σ p h n f = σ f := by
  funext k
  simp [zHandN, hf]
theorem zDie_off {σ : zS} {p : Nat} {a b : Int32} {f : Nat} (hf : f ≠ 4 ∧ f ≠ 5 ∧ f ≠ 6 ∧ f ≠ 11 ∧ f ≠ 14 ∧ f ≠ 15) : zDie σ p a b f = σ f := by
  unfold zDie
  rw [zu_off hf.2.1, zu_off hf.2.2.1, zu_off hf.2.2.2.1, zu_off hf.2.2.2.2.2, zu_off hf.2.2.2.2.1, zu_off hf.1]
theorem zT2_off {σ : zS} {p : Nat} {a b : Int32} {f : Nat} (hf : f ≠ 1 ∧ f ≠ 4 ∧ f ≠ 5 ∧ f ≠ 6 ∧ f ≠ 11 ∧ f ≠ 14 ∧ f ≠ 15) : zT2 σ p a b f = σ f := (zHandN_off hf.1).trans (zDie_off hf.2)
theorem zT3_off {σ : zS} {p : Nat} {a b : Int32} {f : Nat} (hf : f ≠ 21 ∧ f ≠ 22) : zT3 σ p a b f = zT2 σ p a b f := by
  unfold zT3 zFreeT
  split
  · rw [zu_off hf.2, zu_off hf.1]
  · rfl
theorem zTq1_if {σ : zS} {p : Nat} {a b : Int32} (h : zTm σ p) : zTq1 σ p a b = zSends (zT2 σ p a b) (σ 22 0) 0 41 := if_pos h
theorem zTq1_no {σ : zS} {p : Nat} {a b : Int32} (h : ¬ zTm σ p) : zTq1 σ p a b = [] := if_neg h
theorem zT3_if {σ : zS} {p : Nat} {a b : Int32} (h : zTm σ p) : zT3 σ p a b = zFreeT (zT2 σ p a b) := if_pos h
theorem zT3_no {σ : zS} {p : Nat} {a b : Int32} (h : ¬ zTm σ p) : zT3 σ p a b = zT2 σ p a b := if_neg h
/-- what the reference needs of its rows, at any point -/
def zWm (σ : zS) : Prop := σ 0 0 = 0 ∧ ∀ k, k < 41 → σ 0 k ≠ 0 → k ≠ 1 → ∃ j, 1 ≤ j ∧ j < 41 ∧ σ 1 k = nI j
theorem zWm.par {r σ : zS} (h : zWm σ) (ha : zAg r σ) : ∀ k, k < 41 → r 0 k ≠ 0 → r 4 k = 0 → k ≠ 1 → ∃ j, j < 41 ∧ r 1 k = nI j := by
  intro k hk h0 _ h1
  rw [ha 0 (by decide)] at h0
  obtain ⟨j, _, h3, h4⟩ := h.2 k hk h0 h1
  exact ⟨j, h3, by rw [ha 1 (by decide)]; exact h4⟩
theorem zWm_T2 {σ : zS} {p : Nat} {a b : Int32} (h : zWm σ) (hh : 1 ≤ zHeir 40 (zDie σ p a b) (pn (σ 1 p)) ∧ zHeir 40 (zDie σ p a b) (pn (σ 1 p)) < 41) : zWm (zT2 σ p a b) := by
  have e0 : zT2 σ p a b 0 = σ 0 := zT2_off (by decide)
  refine ⟨by rw [e0]; exact h.1, fun k hk h0 h1 => ?_⟩
  rw [e0] at h0
  obtain ⟨j, h2, h3, h4⟩ := h.2 k hk h0 h1
  unfold zT2 zHandN
  simp only []
  split
  · exact ⟨_, hh.1, hh.2, rfl⟩
  · exact ⟨j, h2, h3, by rw [zDie_off (by decide)]; exact h4⟩
theorem zWm_T3 {σ : zS} {p : Nat} {a b : Int32} (h : zWm (zT2 σ p a b)) : zWm (zT3 σ p a b) := by
  unfold zWm
  rw [zT3_off (by decide), zT3_off (by decide)]
  exact h
theorem fl_X3_terminates_84 : Cond.fieldLink RX3 84 "SignalpostModel" "wasOrphaned" "[Z" ∈ wsX3_terminates := by decide +kernel
theorem fl_X3_terminates_23 : Cond.fieldLink RX3 23 "SignalpostModel" "isZombie" "[Z" ∈ wsX3_terminates := by decide +kernel
theorem fl_X3_terminates_53 : Cond.fieldLink RX3 53 "SignalpostModel" "how" "[I" ∈ wsX3_terminates := by decide +kernel
theorem fl_X3_terminates_56 : Cond.fieldLink RX3 56 "SignalpostModel" "value" "[I" ∈ wsX3_terminates := by decide +kernel
theorem fl_X3_terminates_44 : Cond.fieldLink RX3 44 "SignalpostModel" "pending" "[I" ∈ wsX3_terminates := by decide +kernel
theorem fl_X3_terminates_29 : Cond.fieldLink RX3 29 "SignalpostModel" "isWaiting" "[Z" ∈ wsX3_terminates := by decide +kernel
theorem fl_X3_terminates_26 : Cond.fieldLink RX3 26 "SignalpostModel" "isStopped" "[Z" ∈ wsX3_terminates := by decide +kernel
theorem fl_X3_terminates_87 : Cond.fieldLink RX3 87 "SignalpostModel" "wasChild" "[Z" ∈ wsX3_terminates := by decide +kernel
theorem fl_X3_terminates_7 : Cond.fieldLink RX3 7 "SignalpostModel" "isThere" "[Z" ∈ wsX3_terminates := by decide +kernel
theorem fl_X3_terminates_13 : Cond.fieldLink RX3 13 "SignalpostModel" "parent" "[I" ∈ wsX3_terminates := by decide +kernel
theorem fl_X3_terminates_20 : Cond.fieldLink RX3 20 "SignalpostModel" "session" "[I" ∈ wsX3_terminates := by decide +kernel
theorem fl_X3_terminates_74 : Cond.fieldLink RX3 74 "SignalpostModel" "terminal" "I" ∈ wsX3_terminates := by decide +kernel
theorem fl_X3_terminates_78 : Cond.fieldLink RX3 78 "SignalpostModel" "foreground" "I" ∈ wsX3_terminates := by decide +kernel
theorem in_X3_terminates_X3 : ∀ w ∈ u_ws RX3 TX3 29, w ∈ wsX3_terminates := by decide +kernel
set_option maxHeartbeats 4000000 in
set_option maxRecDepth 100000 in
theorem c_X3_terminates (l : Launch) (D : va_G) {B G : zG} {y : Nat} {ma : Nat → Nat} {r : zS} {q : List zEv} {p9 j : Nat} {how w : Int32} (hR : zModR B y ma r G) (hW : zWm r) (hgr : ∀ k, k < 41 → r 0 k ≠ 0 → ∃ g, r 2 k = nI g ∧ 1 ≤ g ∧ g < 41) (hp : 1 ≤ p9 ∧ p9 < 41) (hj : r 1 p9 = nI j) (hself : j ≠ p9) (ha : zAnc 39 r j) (hring : zRing r q) (hroom : q.length + 300 < 8192) : zMet D l yX3_terminates wsX3_terminates ({ frames := 2, cells := 0, slots := 0, locals := 47 } : Room) [.ref y, .int (nI p9), .int how, .int w] G (fun v G9 => v = none ∧ ∃ r2, zModR B y ma r2 G9 ∧ zAg r2 (zT3 r p9 how w) ∧ r2 23 = r 23 ∧ zRing r2 (q ++ zTq r p9 how w)) := by
  refine zMet_of (cc := cX3_terminates) (maxL := 6) (ret := none) (by decide) rfl (Nat.le_of_ble_eq_true rfl) ?_
  intro p e s m args below meth c C hmn
  have hpn : pn (r 1 p9) = j := by rw [hj]; exact nI_clamp (by have := ha.in; omega)
  have hHe : zHeir 40 (zDie r p9 how w) (pn (r 1 p9)) = zHeir 40 (zDie r p9 how w) j := by rw [hpn]
  have ha2 : zAnc 39 (zDie r p9 how w) j := ha.ag (zDie_off (by decide)).symm (zDie_off (by decide)).symm
  have hhe : 1 ≤ (zHeir 40 (zDie r p9 how w) (pn (r 1 p9))) ∧ (zHeir 40 (zDie r p9 how w) (pn (r 1 p9))) < 41 := by rw [hHe]; exact zHeir_in ha2
  have hW2 : zWm (zT2 r p9 how w) := zWm_T2 hW hhe
  have hW3 : zWm (zT3 r p9 how w) := zWm_T3 hW2
  have b1 := zTq1_len r p9 how w
  have b2 := zTq2_len r p9
  have b3 := fun n hn => zTq3_82 r (zT3 r p9 how w) n hn
  have kG : ∀ (n i : Nat) (r1 : zS) (G1 : zG), i + n = 41 → 1 ≤ i → zModR B y ma r1 G1 → zAg r1 (zT3 r p9 how w) → r1 23 = r 23 → (∀ k, 1 ≤ k → k < 41 → r1 27 k = zb (zOrph r (nI k))) → zRing r1 (q ++ (zTq1 r p9 how w ++ (zTq2 r p9 41 ++ zTq3 r (zT3 r p9 how w) i))) → zV p l e ({ frames := 2, cells := 0, slots := 0, locals := 47 } : Room) s m args below meth c D (zA G s.heap.size) 0 0 (zZ below D G (fun v G9 => v = none ∧ ∃ r2, zModR B y ma r2 G9 ∧ zAg r2 (zT3 r p9 how w) ∧ r2 23 = r 23 ∧ zRing r2 (q ++ zTq r p9 how w)) args s ({ frames := 2, cells := 0, slots := 0, locals := 47 } : Room)) G1 241 [some (.ref y), some (.int (nI p9)), some (.int how), some (.int w), none, some (.int (nI i))] [] := by
    intro n
    induction n with
    | zero =>
      intro i r1 G1 hi h1 hR hag h23 hwo hring
      have hi41 : i = 41 := by omega
      subst hi41
      refine zz_iload (pc := 241) C dX3_terminates_241 rfl ?_
      refine zz_bipush (pc := 243) C (v := 40) (by decide) dX3_terminates_243 ?_
      refine zz_icmp_gt (pc := 245) C (tgt := 299) dX3_terminates_245 (by decide) (fun hc245 => ?_) (fun hc245 => ?_)
      · refine zz_aload_n (pc := 299) C dX3_terminates_299 rfl ?_
        refine zz_iconst (pc := 300) C (v := 2) (by decide) dX3_terminates_300 ?_
        refine zz_iconst (pc := 301) C (v := 0) (by decide) dX3_terminates_301 ?_
        refine zz_iload_n (pc := 302) C dX3_terminates_302 rfl ?_
        refine zz_callV (pc := 303) C (c_X3_appends l D hR (ev := (9, p9)) hring (by simp only [List.length_append]; have := b2 41; have := b3 41 (by decide); omega) (by show nI 1000 * nI 2 + nI 50 * nI 0 + nI p9 = _; simp only [pk_mul, nI_add]; rfl)) gX3_terminates_X3_appends rfl 3 (by decide +kernel) ⟨Nat.le_of_ble_eq_true rfl, Nat.le_of_ble_eq_true rfl⟩ hR.2.1 (ci := 3) rfl rfl rfl dX3_terminates_303 rfl (Nat.le_of_ble_eq_true rfl) rfl ⟨Nat.le_of_ble_eq_true rfl, Nat.le_of_ble_eq_true rfl⟩ ?_
        rintro v G9 ⟨rfl, r2, hR2, hag2, hk2, hring2⟩
        exact zz_return (pc := 306) C dX3_terminates_306 (Nat.le_refl _) (Nat.le_refl _) ⟨rfl, r2, hR2, hag2.tr hag, (hk2 23 (by decide)).trans h23, by unfold zTq; simp only [List.append_assoc] at hring2 ⊢; exact hring2⟩
      · exact absurd z41 hc245
    | succ n ih =>
      intro i r1 G1 hi h1 hR hag h23 hwo hring
      refine zz_iload (pc := 241) C dX3_terminates_241 rfl ?_
      refine zz_bipush (pc := 243) C (v := 40) (by decide) dX3_terminates_243 ?_
      refine zz_icmp_gt (pc := 245) C (tgt := 299) dX3_terminates_245 (by decide) (fun hc245 => ?_) (fun hc245 => ?_)
      · exact absurd hc245 (z40 (by omega))
      · refine zz_aload_n (pc := 248) C dX3_terminates_248 rfl ?_
        refine zz_get (pc := 249) C in_X3_terminates_X3 (ci := 3) rfl 27 (by decide) (fl_X3_terminates_84) rfl dX3_terminates_249 hR.2.1 rfl ?_
        refine zz_iload (pc := 252) C dX3_terminates_252 rfl ?_
        refine zz_mldz (pc := 254) C hR 27 (by decide) rfl dX3_terminates_254 rfl (by show _ < 41; omega) ?_
        refine zz_if_ne (pc := 255) C (tgt := 293) dX3_terminates_255 (by decide) (fun hc255 => ?_) (fun hc255 => ?_)
        · refine zz_iinc (pc := 293) C dX3_terminates_293 rfl ?_
          refine zz_goto (pc := 296) C (tgt := 241) dX3_terminates_296 (by decide) ?_
          first
            | exact zV.less (L' := [some (.ref y), some (.int (nI p9)), some (.int how), some (.int w), none, some (.int (nI (i + 1)))]) ⟨rfl, rfl, rfl, rfl, zvi (z1i i), trivial⟩ (ih (i + 1) r3 _ (by omega) (by omega) hR3 ((hag3.tr hag2).tr hag) ((hk3 23 (by decide)).trans ((hk2 23 (by decide)).trans h23)) (fun k h1 h2 => by rw [hk3 27 (by decide), hk2 27 (by decide)]; exact hwo k h1 h2) (by rw [zTq3_yes ⟨zb_eq.mp (by rw [← hwo i h1 (by omega)]; exact Classical.not_not.mp hc255), (zOrph_ag hag).mp (zb_ne.mp hc264), (zStopd_ag hag).mp (zb_ne.mp hc273)⟩]; rw [zSends_ag (hag2.tr hag), zSends_ag hag] at hring3; simp only [List.append_assoc] at hring3 ⊢; exact hring3))
            | exact zV.less (L' := [some (.ref y), some (.int (nI p9)), some (.int how), some (.int w), none, some (.int (nI (i + 1)))]) ⟨rfl, rfl, rfl, rfl, zvi (z1i i), trivial⟩ (ih (i + 1) r1 _ (by omega) (by omega) hR hag h23 hwo (by rw [zTq3_no (fun q9 => q9.1 (zb_ne.mp (by rw [← hwo i h1 (by omega)]; exact hc255)))]; exact hring))
            | exact zV.less (L' := [some (.ref y), some (.int (nI p9)), some (.int how), some (.int w), none, some (.int (nI (i + 1)))]) ⟨rfl, rfl, rfl, rfl, zvi (z1i i), trivial⟩ (ih (i + 1) r1 _ (by omega) (by omega) hR hag h23 hwo (by rw [zTq3_no (fun q9 => zb_eq.mp hc264 ((zOrph_ag hag).mpr q9.2.1))]; exact hring))
            | exact zV.less (L' := [some (.ref y), some (.int (nI p9)), some (.int how), some (.int w), none, some (.int (nI (i + 1)))]) ⟨rfl, rfl, rfl, rfl, zvi (z1i i), trivial⟩ (ih (i + 1) r1 _ (by omega) (by omega) hR hag h23 hwo (by rw [zTq3_no (fun q9 => zb_eq.mp hc273 ((zStopd_ag hag).mpr q9.2.2))]; exact hring))
        · refine zz_aload_n (pc := 258) C dX3_terminates_258 rfl ?_
          refine zz_iload (pc := 259) C dX3_terminates_259 rfl ?_
          refine zz_callV (pc := 261) C (c_X3_orphaned l D hR (g := nI i) (by rw [hag 0 (by decide)]; exact hW3.1) (hW3.par hag)) gX3_terminates_X3_orphaned rfl 1 (by decide +kernel) ⟨Nat.le_of_ble_eq_true rfl, Nat.le_of_ble_eq_true rfl⟩ hR.2.1 (ci := 3) rfl rfl rfl dX3_terminates_261 rfl (Nat.le_of_ble_eq_true rfl) rfl ⟨Nat.le_of_ble_eq_true rfl, Nat.le_of_ble_eq_true rfl⟩ ?_
          rintro v G9 ⟨rfl, rfl⟩
          refine zz_if_eq (pc := 264) C (tgt := 293) dX3_terminates_264 (by decide) (fun hc264 => ?_) (fun hc264 => ?_)
          · refine zz_iinc (pc := 293) C dX3_terminates_293 rfl ?_
            refine zz_goto (pc := 296) C (tgt := 241) dX3_terminates_296 (by decide) ?_
            first
              | exact zV.less (L' := [some (.ref y), some (.int (nI p9)), some (.int how), some (.int w), none, some (.int (nI (i + 1)))]) ⟨rfl, rfl, rfl, rfl, zvi (z1i i), trivial⟩ (ih (i + 1) r3 _ (by omega) (by omega) hR3 ((hag3.tr hag2).tr hag) ((hk3 23 (by decide)).trans ((hk2 23 (by decide)).trans h23)) (fun k h1 h2 => by rw [hk3 27 (by decide), hk2 27 (by decide)]; exact hwo k h1 h2) (by rw [zTq3_yes ⟨zb_eq.mp (by rw [← hwo i h1 (by omega)]; exact Classical.not_not.mp hc255), (zOrph_ag hag).mp (zb_ne.mp hc264), (zStopd_ag hag).mp (zb_ne.mp hc273)⟩]; rw [zSends_ag (hag2.tr hag), zSends_ag hag] at hring3; simp only [List.append_assoc] at hring3 ⊢; exact hring3))
              | exact zV.less (L' := [some (.ref y), some (.int (nI p9)), some (.int how), some (.int w), none, some (.int (nI (i + 1)))]) ⟨rfl, rfl, rfl, rfl, zvi (z1i i), trivial⟩ (ih (i + 1) r1 _ (by omega) (by omega) hR hag h23 hwo (by rw [zTq3_no (fun q9 => q9.1 (zb_ne.mp (by rw [← hwo i h1 (by omega)]; exact hc255)))]; exact hring))
              | exact zV.less (L' := [some (.ref y), some (.int (nI p9)), some (.int how), some (.int w), none, some (.int (nI (i + 1)))]) ⟨rfl, rfl, rfl, rfl, zvi (z1i i), trivial⟩ (ih (i + 1) r1 _ (by omega) (by omega) hR hag h23 hwo (by rw [zTq3_no (fun q9 => zb_eq.mp hc264 ((zOrph_ag hag).mpr q9.2.1))]; exact hring))
              | exact zV.less (L' := [some (.ref y), some (.int (nI p9)), some (.int how), some (.int w), none, some (.int (nI (i + 1)))]) ⟨rfl, rfl, rfl, rfl, zvi (z1i i), trivial⟩ (ih (i + 1) r1 _ (by omega) (by omega) hR hag h23 hwo (by rw [zTq3_no (fun q9 => zb_eq.mp hc273 ((zStopd_ag hag).mpr q9.2.2))]; exact hring))
          · refine zz_aload_n (pc := 267) C dX3_terminates_267 rfl ?_
            refine zz_iload (pc := 268) C dX3_terminates_268 rfl ?_
            refine zz_callV (pc := 270) C (c_X3_hasStopped l D hR (g := nI i) (by rw [hag 0 (by decide)]; exact hW3.1)) gX3_terminates_X3_hasStopped rfl 1 (by decide +kernel) ⟨Nat.le_of_ble_eq_true rfl, Nat.le_of_ble_eq_true rfl⟩ hR.2.1 (ci := 3) rfl rfl rfl dX3_terminates_270 rfl (Nat.le_of_ble_eq_true rfl) rfl ⟨Nat.le_of_ble_eq_true rfl, Nat.le_of_ble_eq_true rfl⟩ ?_
            rintro v G9 ⟨rfl, rfl⟩
            refine zz_if_eq (pc := 273) C (tgt := 293) dX3_terminates_273 (by decide) (fun hc273 => ?_) (fun hc273 => ?_)
            · refine zz_iinc (pc := 293) C dX3_terminates_293 rfl ?_
              refine zz_goto (pc := 296) C (tgt := 241) dX3_terminates_296 (by decide) ?_
              first
                | exact zV.less (L' := [some (.ref y), some (.int (nI p9)), some (.int how), some (.int w), none, some (.int (nI (i + 1)))]) ⟨rfl, rfl, rfl, rfl, zvi (z1i i), trivial⟩ (ih (i + 1) r3 _ (by omega) (by omega) hR3 ((hag3.tr hag2).tr hag) ((hk3 23 (by decide)).trans ((hk2 23 (by decide)).trans h23)) (fun k h1 h2 => by rw [hk3 27 (by decide), hk2 27 (by decide)]; exact hwo k h1 h2) (by rw [zTq3_yes ⟨zb_eq.mp (by rw [← hwo i h1 (by omega)]; exact Classical.not_not.mp hc255), (zOrph_ag hag).mp (zb_ne.mp hc264), (zStopd_ag hag).mp (zb_ne.mp hc273)⟩]; rw [zSends_ag (hag2.tr hag), zSends_ag hag] at hring3; simp only [List.append_assoc] at hring3 ⊢; exact hring3))
                | exact zV.less (L' := [some (.ref y), some (.int (nI p9)), some (.int how), some (.int w), none, some (.int (nI (i + 1)))]) ⟨rfl, rfl, rfl, rfl, zvi (z1i i), trivial⟩ (ih (i + 1) r1 _ (by omega) (by omega) hR hag h23 hwo (by rw [zTq3_no (fun q9 => q9.1 (zb_ne.mp (by rw [← hwo i h1 (by omega)]; exact hc255)))]; exact hring))
                | exact zV.less (L' := [some (.ref y), some (.int (nI p9)), some (.int how), some (.int w), none, some (.int (nI (i + 1)))]) ⟨rfl, rfl, rfl, rfl, zvi (z1i i), trivial⟩ (ih (i + 1) r1 _ (by omega) (by omega) hR hag h23 hwo (by rw [zTq3_no (fun q9 => zb_eq.mp hc264 ((zOrph_ag hag).mpr q9.2.1))]; exact hring))
                | exact zV.less (L' := [some (.ref y), some (.int (nI p9)), some (.int how), some (.int w), none, some (.int (nI (i + 1)))]) ⟨rfl, rfl, rfl, rfl, zvi (z1i i), trivial⟩ (ih (i + 1) r1 _ (by omega) (by omega) hR hag h23 hwo (by rw [zTq3_no (fun q9 => zb_eq.mp hc273 ((zStopd_ag hag).mpr q9.2.2))]; exact hring))
            · refine zz_aload_n (pc := 276) C dX3_terminates_276 rfl ?_
              refine zz_iload (pc := 277) C dX3_terminates_277 rfl ?_
              refine zz_iconst (pc := 279) C (v := 0) (by decide) dX3_terminates_279 ?_
              refine zz_callV (pc := 280) C (c_X3_sends l D hR (g := nI i) (sg := 0) (by rw [hag 0 (by decide)]; exact hW3.1) (by decide) hring (by simp only [List.length_append]; have := b2 41; have := b3 i (by omega);  omega)) gX3_terminates_X3_sends rfl 2 (by decide +kernel) ⟨Nat.le_of_ble_eq_true rfl, Nat.le_of_ble_eq_true rfl⟩ hR.2.1 (ci := 3) rfl rfl rfl dX3_terminates_280 rfl (Nat.le_of_ble_eq_true rfl) rfl ⟨Nat.le_of_ble_eq_true rfl, Nat.le_of_ble_eq_true rfl⟩ ?_
              rintro v G9 ⟨rfl, r2, hR2, hag2, hk2, hring2⟩
              refine zz_pop (pc := 283) C dX3_terminates_283 rfl ?_
              refine zz_aload_n (pc := 284) C dX3_terminates_284 rfl ?_
              refine zz_iload (pc := 285) C dX3_terminates_285 rfl ?_
              refine zz_bipush (pc := 287) C (v := 7) (by decide) dX3_terminates_287 ?_
              refine zz_callV (pc := 289) C (c_X3_sends l D hR2 (g := nI i) (sg := 7) (by rw [hag2 0 (by decide), hag 0 (by decide)]; exact hW3.1) (by decide) hring2 (by simp only [List.length_append]; have := b2 41; have := b3 i (by omega); have := @zSends_len r1 (nI i) 0 41; omega)) gX3_terminates_X3_sends rfl 2 (by decide +kernel) ⟨Nat.le_of_ble_eq_true rfl, Nat.le_of_ble_eq_true rfl⟩ hR2.2.1 (ci := 3) rfl rfl rfl dX3_terminates_289 rfl (Nat.le_of_ble_eq_true rfl) rfl ⟨Nat.le_of_ble_eq_true rfl, Nat.le_of_ble_eq_true rfl⟩ ?_
              rintro v G9 ⟨rfl, r3, hR3, hag3, hk3, hring3⟩
              refine zz_pop (pc := 292) C dX3_terminates_292 rfl ?_
              refine zz_iinc (pc := 293) C dX3_terminates_293 rfl ?_
              refine zz_goto (pc := 296) C (tgt := 241) dX3_terminates_296 (by decide) ?_
              first
                | exact zV.less (L' := [some (.ref y), some (.int (nI p9)), some (.int how), some (.int w), none, some (.int (nI (i + 1)))]) ⟨rfl, rfl, rfl, rfl, zvi (z1i i), trivial⟩ (ih (i + 1) r3 _ (by omega) (by omega) hR3 ((hag3.tr hag2).tr hag) ((hk3 23 (by decide)).trans ((hk2 23 (by decide)).trans h23)) (fun k h1 h2 => by rw [hk3 27 (by decide), hk2 27 (by decide)]; exact hwo k h1 h2) (by rw [zTq3_yes ⟨zb_eq.mp (by rw [← hwo i h1 (by omega)]; exact Classical.not_not.mp hc255), (zOrph_ag hag).mp (zb_ne.mp hc264), (zStopd_ag hag).mp (zb_ne.mp hc273)⟩]; rw [zSends_ag (hag2.tr hag), zSends_ag hag] at hring3; simp only [List.append_assoc] at hring3 ⊢; exact hring3))
                | exact zV.less (L' := [some (.ref y), some (.int (nI p9)), some (.int how), some (.int w), none, some (.int (nI (i + 1)))]) ⟨rfl, rfl, rfl, rfl, zvi (z1i i), trivial⟩ (ih (i + 1) r1 _ (by omega) (by omega) hR hag h23 hwo (by rw [zTq3_no (fun q9 => q9.1 (zb_ne.mp (by rw [← hwo i h1 (by omega)]; exact hc255)))]; exact hring))
                | exact zV.less (L' := [some (.ref y), some (.int (nI p9)), some (.int how), some (.int w), none, some (.int (nI (i + 1)))]) ⟨rfl, rfl, rfl, rfl, zvi (z1i i), trivial⟩ (ih (i + 1) r1 _ (by omega) (by omega) hR hag h23 hwo (by rw [zTq3_no (fun q9 => zb_eq.mp hc264 ((zOrph_ag hag).mpr q9.2.1))]; exact hring))
                | exact zV.less (L' := [some (.ref y), some (.int (nI p9)), some (.int how), some (.int w), none, some (.int (nI (i + 1)))]) ⟨rfl, rfl, rfl, rfl, zvi (z1i i), trivial⟩ (ih (i + 1) r1 _ (by omega) (by omega) hR hag h23 hwo (by rw [zTq3_no (fun q9 => zb_eq.mp hc273 ((zStopd_ag hag).mpr q9.2.2))]; exact hring))
  have kF : ∀ (n i : Nat) (r1 : zS) (G1 : zG), i + n = 41 → 1 ≤ i → zModR B y ma r1 G1 → zAg r1 (zT3 r p9 how w) → r1 23 = r 23 → (∀ k, 1 ≤ k → k < 41 → r1 27 k = zb (zOrph r (nI k))) → (∀ k, 1 ≤ k → k < 41 → r1 28 k = zb (r 0 k ≠ 0 ∧ r 1 k = nI p9)) → zRing r1 (q ++ (zTq1 r p9 how w ++ zTq2 r p9 i)) → zV p l e ({ frames := 2, cells := 0, slots := 0, locals := 47 } : Room) s m args below meth c D (zA G s.heap.size) 0 0 (zZ below D G (fun v G9 => v = none ∧ ∃ r2, zModR B y ma r2 G9 ∧ zAg r2 (zT3 r p9 how w) ∧ r2 23 = r 23 ∧ zRing r2 (q ++ zTq r p9 how w)) args s ({ frames := 2, cells := 0, slots := 0, locals := 47 } : Room)) G1 197 [some (.ref y), some (.int (nI p9)), some (.int how), some (.int w), none, some (.int (nI i))] [] := by
    intro n
    induction n with
    | zero =>
      intro i r1 G1 hi h1 hR hag h23 hwo hwc hring
      have hi41 : i = 41 := by omega
      subst hi41
      refine zz_iload (pc := 197) C dX3_terminates_197 rfl ?_
      refine zz_bipush (pc := 199) C (v := 40) (by decide) dX3_terminates_199 ?_
      refine zz_icmp_gt (pc := 201) C (tgt := 238) dX3_terminates_201 (by decide) (fun hc201 => ?_) (fun hc201 => ?_)
      · refine zz_iconst (pc := 238) C (v := 1) (by decide) dX3_terminates_238 ?_
        refine zz_istore (pc := 239) C dX3_terminates_239 (Nat.le_of_ble_eq_true rfl) ?_
        exact zV.less (L' := [some (.ref y), some (.int (nI p9)), some (.int how), some (.int w), none, some (.int (nI 1))]) ⟨rfl, rfl, rfl, rfl, rfl, trivial⟩ (kG 40 1 r1 _ rfl (Nat.le_refl _) hR hag h23 hwo (by rw [show zTq3 r (zT3 r p9 how w) 1 = [] from (zTq3_no (fun q9 => q9.1 (fun k hk z => by obtain ⟨g, g1, g2⟩ := hgr k hk z.1.1; rw [g1] at z; exact absurd ((nI_eq (by omega) (by decide)).mp z.2) (by omega)))).trans rfl]; simpa only [List.append_nil] using hring))
      · exact absurd z41 hc201
    | succ n ih =>
      intro i r1 G1 hi h1 hR hag h23 hwo hwc hring
      refine zz_iload (pc := 197) C dX3_terminates_197 rfl ?_
      refine zz_bipush (pc := 199) C (v := 40) (by decide) dX3_terminates_199 ?_
      refine zz_icmp_gt (pc := 201) C (tgt := 238) dX3_terminates_201 (by decide) (fun hc201 => ?_) (fun hc201 => ?_)
      · exact absurd hc201 (z40 (by omega))
      · have hz4 : r1 4 i = zDie r p9 how w 4 i := by rw [hag 4 (by decide), zT3_off (by decide)]; unfold zT2; rw [zHandN_off (by decide)]
        refine zz_aload_n (pc := 204) C dX3_terminates_204 rfl ?_
        refine zz_get (pc := 205) C in_X3_terminates_X3 (ci := 3) rfl 28 (by decide) (fl_X3_terminates_87) rfl dX3_terminates_205 hR.2.1 rfl ?_
        refine zz_iload (pc := 208) C dX3_terminates_208 rfl ?_
        refine zz_mldz (pc := 210) C hR 28 (by decide) rfl dX3_terminates_210 rfl (by show _ < 41; omega) ?_
        refine zz_if_eq (pc := 211) C (tgt := 232) dX3_terminates_211 (by decide) (fun hc211 => ?_) (fun hc211 => ?_)
        · refine zz_iinc (pc := 232) C dX3_terminates_232 rfl ?_
          refine zz_goto (pc := 235) C (tgt := 197) dX3_terminates_235 (by decide) ?_
          have hkk : r 0 i ≠ 0 → r 1 i = nI p9 → (r1 4 i ≠ 0 ↔ r 4 i ≠ 0) := fun q1 q2 => by
            have hip : i ≠ p9 := fun q3 => hself (by rw [← q3]; exact (nI_eq (by have := ha.in; omega) (by omega)).mp (by rw [← hj, ← q3, q2, q3]))
            rw [hz4]; unfold zDie; simp [zu, hip]
          first
            | exact zV.less (L' := [some (.ref y), some (.int (nI p9)), some (.int how), some (.int w), none, some (.int (nI (i + 1)))]) ⟨rfl, rfl, rfl, rfl, zvi (z1i i), trivial⟩ (ih (i + 1) r2 _ (by omega) (by omega) hR2 (hag2.tr hag) ((hk2 23 (by decide)).trans h23) (fun k h1 h2 => by rw [hk2 27 (by decide)]; exact hwo k h1 h2) (fun k h1 h2 => by rw [hk2 28 (by decide)]; exact hwc k h1 h2) (by have hw := zb_ne.mp (by rw [← hwc i h1 (by omega)]; exact hc211); rw [zTq2_yes ⟨hw.1, hw.2, (hkk hw.1 hw.2).mp hc221⟩]; simp only [List.append_assoc] at hring2 ⊢; exact hring2))
            | exact zV.less (L' := [some (.ref y), some (.int (nI p9)), some (.int how), some (.int w), none, some (.int (nI (i + 1)))]) ⟨rfl, rfl, rfl, rfl, zvi (z1i i), trivial⟩ (ih (i + 1) r1 _ (by omega) (by omega) hR hag h23 hwo hwc (by rw [zTq2_no (fun q9 => absurd (show r 0 i ≠ 0 ∧ r 1 i = nI p9 from ⟨q9.1, q9.2.1⟩) (zb_eq.mp (by rw [← hwc i h1 (by omega)]; exact hc211)))]; exact hring))
            | exact zV.less (L' := [some (.ref y), some (.int (nI p9)), some (.int how), some (.int w), none, some (.int (nI (i + 1)))]) ⟨rfl, rfl, rfl, rfl, zvi (z1i i), trivial⟩ (ih (i + 1) r1 _ (by omega) (by omega) hR hag h23 hwo hwc (by rw [zTq2_no (fun q9 => (hkk q9.1 q9.2.1).mpr q9.2.2 hc221)]; exact hring))
        · refine zz_aload_n (pc := 214) C dX3_terminates_214 rfl ?_
          refine zz_get (pc := 215) C in_X3_terminates_X3 (ci := 3) rfl 4 (by decide) (fl_X3_terminates_23) rfl dX3_terminates_215 hR.2.1 rfl ?_
          refine zz_iload (pc := 218) C dX3_terminates_218 rfl ?_
          refine zz_mldz (pc := 220) C hR 4 (by decide) rfl dX3_terminates_220 rfl (by show _ < 41; omega) ?_
          refine zz_if_eq (pc := 221) C (tgt := 232) dX3_terminates_221 (by decide) (fun hc221 => ?_) (fun hc221 => ?_)
          · refine zz_iinc (pc := 232) C dX3_terminates_232 rfl ?_
            refine zz_goto (pc := 235) C (tgt := 197) dX3_terminates_235 (by decide) ?_
            have hkk : r 0 i ≠ 0 → r 1 i = nI p9 → (r1 4 i ≠ 0 ↔ r 4 i ≠ 0) := fun q1 q2 => by
              have hip : i ≠ p9 := fun q3 => hself (by rw [← q3]; exact (nI_eq (by have := ha.in; omega) (by omega)).mp (by rw [← hj, ← q3, q2, q3]))
              rw [hz4]; unfold zDie; simp [zu, hip]
            first
              | exact zV.less (L' := [some (.ref y), some (.int (nI p9)), some (.int how), some (.int w), none, some (.int (nI (i + 1)))]) ⟨rfl, rfl, rfl, rfl, zvi (z1i i), trivial⟩ (ih (i + 1) r2 _ (by omega) (by omega) hR2 (hag2.tr hag) ((hk2 23 (by decide)).trans h23) (fun k h1 h2 => by rw [hk2 27 (by decide)]; exact hwo k h1 h2) (fun k h1 h2 => by rw [hk2 28 (by decide)]; exact hwc k h1 h2) (by have hw := zb_ne.mp (by rw [← hwc i h1 (by omega)]; exact hc211); rw [zTq2_yes ⟨hw.1, hw.2, (hkk hw.1 hw.2).mp hc221⟩]; simp only [List.append_assoc] at hring2 ⊢; exact hring2))
              | exact zV.less (L' := [some (.ref y), some (.int (nI p9)), some (.int how), some (.int w), none, some (.int (nI (i + 1)))]) ⟨rfl, rfl, rfl, rfl, zvi (z1i i), trivial⟩ (ih (i + 1) r1 _ (by omega) (by omega) hR hag h23 hwo hwc (by rw [zTq2_no (fun q9 => absurd (show r 0 i ≠ 0 ∧ r 1 i = nI p9 from ⟨q9.1, q9.2.1⟩) (zb_eq.mp (by rw [← hwc i h1 (by omega)]; exact hc211)))]; exact hring))
              | exact zV.less (L' := [some (.ref y), some (.int (nI p9)), some (.int how), some (.int w), none, some (.int (nI (i + 1)))]) ⟨rfl, rfl, rfl, rfl, zvi (z1i i), trivial⟩ (ih (i + 1) r1 _ (by omega) (by omega) hR hag h23 hwo hwc (by rw [zTq2_no (fun q9 => (hkk q9.1 q9.2.1).mpr q9.2.2 hc221)]; exact hring))
          · refine zz_aload_n (pc := 224) C dX3_terminates_224 rfl ?_
            refine zz_iconst (pc := 225) C (v := 2) (by decide) dX3_terminates_225 ?_
            refine zz_iconst (pc := 226) C (v := 0) (by decide) dX3_terminates_226 ?_
            refine zz_iload (pc := 227) C dX3_terminates_227 rfl ?_
            refine zz_callV (pc := 229) C (c_X3_appends l D hR (ev := (9, i)) hring (by simp only [List.length_append]; have := b2 i; omega) (by show nI 1000 * nI 2 + nI 50 * nI 0 + nI i = _; simp only [pk_mul, nI_add]; rfl)) gX3_terminates_X3_appends rfl 3 (by decide +kernel) ⟨Nat.le_of_ble_eq_true rfl, Nat.le_of_ble_eq_true rfl⟩ hR.2.1 (ci := 3) rfl rfl rfl dX3_terminates_229 rfl (Nat.le_of_ble_eq_true rfl) rfl ⟨Nat.le_of_ble_eq_true rfl, Nat.le_of_ble_eq_true rfl⟩ ?_
            rintro v G9 ⟨rfl, r2, hR2, hag2, hk2, hring2⟩
            refine zz_iinc (pc := 232) C dX3_terminates_232 rfl ?_
            refine zz_goto (pc := 235) C (tgt := 197) dX3_terminates_235 (by decide) ?_
            have hkk : r 0 i ≠ 0 → r 1 i = nI p9 → (r1 4 i ≠ 0 ↔ r 4 i ≠ 0) := fun q1 q2 => by
              have hip : i ≠ p9 := fun q3 => hself (by rw [← q3]; exact (nI_eq (by have := ha.in; omega) (by omega)).mp (by rw [← hj, ← q3, q2, q3]))
              rw [hz4]; unfold zDie; simp [zu, hip]
            first
              | exact zV.less (L' := [some (.ref y), some (.int (nI p9)), some (.int how), some (.int w), none, some (.int (nI (i + 1)))]) ⟨rfl, rfl, rfl, rfl, zvi (z1i i), trivial⟩ (ih (i + 1) r2 _ (by omega) (by omega) hR2 (hag2.tr hag) ((hk2 23 (by decide)).trans h23) (fun k h1 h2 => by rw [hk2 27 (by decide)]; exact hwo k h1 h2) (fun k h1 h2 => by rw [hk2 28 (by decide)]; exact hwc k h1 h2) (by have hw := zb_ne.mp (by rw [← hwc i h1 (by omega)]; exact hc211); rw [zTq2_yes ⟨hw.1, hw.2, (hkk hw.1 hw.2).mp hc221⟩]; simp only [List.append_assoc] at hring2 ⊢; exact hring2))
              | exact zV.less (L' := [some (.ref y), some (.int (nI p9)), some (.int how), some (.int w), none, some (.int (nI (i + 1)))]) ⟨rfl, rfl, rfl, rfl, zvi (z1i i), trivial⟩ (ih (i + 1) r1 _ (by omega) (by omega) hR hag h23 hwo hwc (by rw [zTq2_no (fun q9 => absurd (show r 0 i ≠ 0 ∧ r 1 i = nI p9 from ⟨q9.1, q9.2.1⟩) (zb_eq.mp (by rw [← hwc i h1 (by omega)]; exact hc211)))]; exact hring))
              | exact zV.less (L' := [some (.ref y), some (.int (nI p9)), some (.int how), some (.int w), none, some (.int (nI (i + 1)))]) ⟨rfl, rfl, rfl, rfl, zvi (z1i i), trivial⟩ (ih (i + 1) r1 _ (by omega) (by omega) hR hag h23 hwo hwc (by rw [zTq2_no (fun q9 => (hkk q9.1 q9.2.1).mpr q9.2.2 hc221)]; exact hring))
  have kE : ∀ (r1 : zS) (G1 : zG), zModR B y ma r1 G1 → zAg r1 (zT2 r p9 how w) → r1 23 = r 23 → (∀ k, 1 ≤ k → k < 41 → r1 27 k = zb (zOrph r (nI k))) → (∀ k, 1 ≤ k → k < 41 → r1 28 k = zb (r 0 k ≠ 0 ∧ r 1 k = nI p9)) → zRing r1 q → zV p l e ({ frames := 2, cells := 0, slots := 0, locals := 47 } : Room) s m args below meth c D (zA G s.heap.size) 0 0 (zZ below D G (fun v G9 => v = none ∧ ∃ r2, zModR B y ma r2 G9 ∧ zAg r2 (zT3 r p9 how w) ∧ r2 23 = r 23 ∧ zRing r2 (q ++ zTq r p9 how w)) args s ({ frames := 2, cells := 0, slots := 0, locals := 47 } : Room)) G1 156 [some (.ref y), some (.int (nI p9)), some (.int how), some (.int w), none, none] [] := by
    intro r1 G1 hR hag h23 hwo hwc hring
    refine zz_aload_n (pc := 156) C dX3_terminates_156 rfl ?_
    refine zz_get (pc := 157) C in_X3_terminates_X3 (ci := 3) rfl 3 (by decide) (fl_X3_terminates_20) rfl dX3_terminates_157 hR.2.1 rfl ?_
    refine zz_iload_n (pc := 160) C dX3_terminates_160 rfl ?_
    refine zz_mld (pc := 161) C hR 3 (by decide) rfl dX3_terminates_161 rfl (by show _ < 41; omega) ?_
    refine zz_iload_n (pc := 162) C dX3_terminates_162 rfl ?_
    refine zz_icmp_ne (pc := 163) C (tgt := 194) dX3_terminates_163 (by decide) (fun hc163 => ?_) (fun hc163 => ?_)
    · refine zz_iconst (pc := 194) C (v := 1) (by decide) dX3_terminates_194 ?_
      refine zz_istore (pc := 195) C dX3_terminates_195 (Nat.le_of_ble_eq_true rfl) ?_
      have e3 : r1 3 p9 = r 3 p9 := by rw [hag 3 (by decide), zT2_off (by decide)]
      have e21 : r1 21 0 = r 21 0 := by rw [hag 21 (by decide), zT2_off (by decide)]
      have e22 : r1 22 0 = r 22 0 := by rw [hag 22 (by decide), zT2_off (by decide)]
      first
        | (have htm : ¬ zTm r p9 := fun q9 => hc163 (by rw [e3]; exact q9.1)
           exact zV.less (L' := [some (.ref y), some (.int (nI p9)), some (.int how), some (.int w), none, some (.int (nI 1))]) ⟨rfl, rfl, rfl, rfl, rfl, trivial⟩ (kF 40 1 r1 _ rfl (Nat.le_refl _) hR (by rw [zT3_no htm]; exact hag) h23 hwo hwc (by rw [show zTq2 r p9 1 = [] from (zTq2_no (fun q9 => q9.1 hW.1)).trans rfl, List.append_nil]; rw [zTq1_no htm, List.append_nil]; exact hring)))
        | (have htm : ¬ zTm r p9 := fun q9 => hc171 (by rw [e21]; exact q9.2)
           exact zV.less (L' := [some (.ref y), some (.int (nI p9)), some (.int how), some (.int w), none, some (.int (nI 1))]) ⟨rfl, rfl, rfl, rfl, rfl, trivial⟩ (kF 40 1 r1 _ rfl (Nat.le_refl _) hR (by rw [zT3_no htm]; exact hag) h23 hwo hwc (by rw [show zTq2 r p9 1 = [] from (zTq2_no (fun q9 => q9.1 hW.1)).trans rfl, List.append_nil]; rw [zTq1_no htm, List.append_nil]; exact hring)))
        | (have htm : zTm r p9 := ⟨by rw [← e3]; exact Classical.not_not.mp hc163, by rw [← e21]; exact Classical.not_not.mp hc171⟩
           have ha9 : zAg (zu r1 21 0 (-1)) (zu (zT2 r p9 how w) 21 0 (-1)) := zAg_zu hag
           exact zV.less (L' := [some (.ref y), some (.int (nI p9)), some (.int how), some (.int w), none, some (.int (nI 1))]) ⟨rfl, rfl, rfl, rfl, rfl, trivial⟩ (kF 40 1 _ _ rfl (Nat.le_refl _) hR (by rw [zT3_if htm]; exact zAg_zu (hag2.tr ha9)) (by rw [zu_off (by decide), hk2 23 (by decide), zu_off (by decide)]; exact h23) (fun k h1 h2 => by rw [zu_off (by decide), hk2 27 (by decide), zu_off (by decide)]; exact hwo k h1 h2) (fun k h1 h2 => by rw [zu_off (by decide), hk2 28 (by decide), zu_off (by decide)]; exact hwc k h1 h2) (by rw [show zTq2 r p9 1 = [] from (zTq2_no (fun q9 => q9.1 hW.1)).trans rfl, List.append_nil]; rw [zTq1_if htm]; have h9 : zSends (zu r1 21 0 (-1)) (r1 22 0) 0 41 = zSends (zT2 r p9 how w) (r 22 0) 0 41 := (by rw [e22, zSends_ag ha9]; try rfl); rw [h9] at hring2; exact hring2.ag (zu_off (by decide)) (zu_off (by decide)) (zu_off (by decide)))))
    · refine zz_aload_n (pc := 166) C dX3_terminates_166 rfl ?_
      refine zz_get (pc := 167) C in_X3_terminates_X3 (ci := 3) rfl 21 (by decide) (fl_X3_terminates_74) rfl dX3_terminates_167 hR.2.1 rfl ?_
      refine zz_iload_n (pc := 170) C dX3_terminates_170 rfl ?_
      refine zz_icmp_ne (pc := 171) C (tgt := 194) dX3_terminates_171 (by decide) (fun hc171 => ?_) (fun hc171 => ?_)
      · refine zz_iconst (pc := 194) C (v := 1) (by decide) dX3_terminates_194 ?_
        refine zz_istore (pc := 195) C dX3_terminates_195 (Nat.le_of_ble_eq_true rfl) ?_
        have e3 : r1 3 p9 = r 3 p9 := by rw [hag 3 (by decide), zT2_off (by decide)]
        have e21 : r1 21 0 = r 21 0 := by rw [hag 21 (by decide), zT2_off (by decide)]
        have e22 : r1 22 0 = r 22 0 := by rw [hag 22 (by decide), zT2_off (by decide)]
        first
          | (have htm : ¬ zTm r p9 := fun q9 => hc163 (by rw [e3]; exact q9.1)
             exact zV.less (L' := [some (.ref y), some (.int (nI p9)), some (.int how), some (.int w), none, some (.int (nI 1))]) ⟨rfl, rfl, rfl, rfl, rfl, trivial⟩ (kF 40 1 r1 _ rfl (Nat.le_refl _) hR (by rw [zT3_no htm]; exact hag) h23 hwo hwc (by rw [show zTq2 r p9 1 = [] from (zTq2_no (fun q9 => q9.1 hW.1)).trans rfl, List.append_nil]; rw [zTq1_no htm, List.append_nil]; exact hring)))
          | (have htm : ¬ zTm r p9 := fun q9 => hc171 (by rw [e21]; exact q9.2)
             exact zV.less (L' := [some (.ref y), some (.int (nI p9)), some (.int how), some (.int w), none, some (.int (nI 1))]) ⟨rfl, rfl, rfl, rfl, rfl, trivial⟩ (kF 40 1 r1 _ rfl (Nat.le_refl _) hR (by rw [zT3_no htm]; exact hag) h23 hwo hwc (by rw [show zTq2 r p9 1 = [] from (zTq2_no (fun q9 => q9.1 hW.1)).trans rfl, List.append_nil]; rw [zTq1_no htm, List.append_nil]; exact hring)))
          | (have htm : zTm r p9 := ⟨by rw [← e3]; exact Classical.not_not.mp hc163, by rw [← e21]; exact Classical.not_not.mp hc171⟩
             have ha9 : zAg (zu r1 21 0 (-1)) (zu (zT2 r p9 how w) 21 0 (-1)) := zAg_zu hag
             exact zV.less (L' := [some (.ref y), some (.int (nI p9)), some (.int how), some (.int w), none, some (.int (nI 1))]) ⟨rfl, rfl, rfl, rfl, rfl, trivial⟩ (kF 40 1 _ _ rfl (Nat.le_refl _) hR (by rw [zT3_if htm]; exact zAg_zu (hag2.tr ha9)) (by rw [zu_off (by decide), hk2 23 (by decide), zu_off (by decide)]; exact h23) (fun k h1 h2 => by rw [zu_off (by decide), hk2 27 (by decide), zu_off (by decide)]; exact hwo k h1 h2) (fun k h1 h2 => by rw [zu_off (by decide), hk2 28 (by decide), zu_off (by decide)]; exact hwc k h1 h2) (by rw [show zTq2 r p9 1 = [] from (zTq2_no (fun q9 => q9.1 hW.1)).trans rfl, List.append_nil]; rw [zTq1_if htm]; have h9 : zSends (zu r1 21 0 (-1)) (r1 22 0) 0 41 = zSends (zT2 r p9 how w) (r 22 0) 0 41 := (by rw [e22, zSends_ag ha9]; try rfl); rw [h9] at hring2; exact hring2.ag (zu_off (by decide)) (zu_off (by decide)) (zu_off (by decide)))))
      · refine zz_aload_n (pc := 174) C dX3_terminates_174 rfl ?_
        refine zz_iconst (pc := 175) C (v := -1) (by decide) dX3_terminates_175 ?_
        refine zz_mput (pc := 176) C in_X3_terminates_X3 hR 21 (by decide) fl_X3_terminates_74 dX3_terminates_176 (fun G hR => ?_)
        refine zz_aload_n (pc := 179) C dX3_terminates_179 rfl ?_
        refine zz_aload_n (pc := 180) C dX3_terminates_180 rfl ?_
        refine zz_get (pc := 181) C in_X3_terminates_X3 (ci := 3) rfl 22 (by decide) (fl_X3_terminates_78) rfl dX3_terminates_181 hR.2.1 rfl ?_
        refine zz_iconst (pc := 184) C (v := 0) (by decide) dX3_terminates_184 ?_
        refine zz_callV (pc := 185) C (c_X3_sends l D hR (g := r1 22 0) (sg := 0) (by simp only [zu]; rw [hag 0 (by decide)]; exact hW2.1) (by decide) (hring.ag rfl rfl rfl) (by omega)) gX3_terminates_X3_sends rfl 2 (by decide +kernel) ⟨Nat.le_of_ble_eq_true rfl, Nat.le_of_ble_eq_true rfl⟩ hR.2.1 (ci := 3) rfl rfl rfl dX3_terminates_185 rfl (Nat.le_of_ble_eq_true rfl) rfl ⟨Nat.le_of_ble_eq_true rfl, Nat.le_of_ble_eq_true rfl⟩ ?_
        rintro v G9 ⟨rfl, r2, hR2, hag2, hk2, hring2⟩
        have hR := hR2
        refine zz_pop (pc := 188) C dX3_terminates_188 rfl ?_
        refine zz_aload_n (pc := 189) C dX3_terminates_189 rfl ?_
        refine zz_iconst (pc := 190) C (v := -1) (by decide) dX3_terminates_190 ?_
        refine zz_mput (pc := 191) C in_X3_terminates_X3 hR 22 (by decide) fl_X3_terminates_78 dX3_terminates_191 (fun G hR => ?_)
        refine zz_iconst (pc := 194) C (v := 1) (by decide) dX3_terminates_194 ?_
        refine zz_istore (pc := 195) C dX3_terminates_195 (Nat.le_of_ble_eq_true rfl) ?_
        have e3 : r1 3 p9 = r 3 p9 := by rw [hag 3 (by decide), zT2_off (by decide)]
        have e21 : r1 21 0 = r 21 0 := by rw [hag 21 (by decide), zT2_off (by decide)]
        have e22 : r1 22 0 = r 22 0 := by rw [hag 22 (by decide), zT2_off (by decide)]
        first
          | (have htm : ¬ zTm r p9 := fun q9 => hc163 (by rw [e3]; exact q9.1)
             exact zV.less (L' := [some (.ref y), some (.int (nI p9)), some (.int how), some (.int w), none, some (.int (nI 1))]) ⟨rfl, rfl, rfl, rfl, rfl, trivial⟩ (kF 40 1 r1 _ rfl (Nat.le_refl _) hR (by rw [zT3_no htm]; exact hag) h23 hwo hwc (by rw [show zTq2 r p9 1 = [] from (zTq2_no (fun q9 => q9.1 hW.1)).trans rfl, List.append_nil]; rw [zTq1_no htm, List.append_nil]; exact hring)))
          | (have htm : ¬ zTm r p9 := fun q9 => hc171 (by rw [e21]; exact q9.2)
             exact zV.less (L' := [some (.ref y), some (.int (nI p9)), some (.int how), some (.int w), none, some (.int (nI 1))]) ⟨rfl, rfl, rfl, rfl, rfl, trivial⟩ (kF 40 1 r1 _ rfl (Nat.le_refl _) hR (by rw [zT3_no htm]; exact hag) h23 hwo hwc (by rw [show zTq2 r p9 1 = [] from (zTq2_no (fun q9 => q9.1 hW.1)).trans rfl, List.append_nil]; rw [zTq1_no htm, List.append_nil]; exact hring)))
          | (have htm : zTm r p9 := ⟨by rw [← e3]; exact Classical.not_not.mp hc163, by rw [← e21]; exact Classical.not_not.mp hc171⟩
             have ha9 : zAg (zu r1 21 0 (-1)) (zu (zT2 r p9 how w) 21 0 (-1)) := zAg_zu hag
             exact zV.less (L' := [some (.ref y), some (.int (nI p9)), some (.int how), some (.int w), none, some (.int (nI 1))]) ⟨rfl, rfl, rfl, rfl, rfl, trivial⟩ (kF 40 1 _ _ rfl (Nat.le_refl _) hR (by rw [zT3_if htm]; exact zAg_zu (hag2.tr ha9)) (by rw [zu_off (by decide), hk2 23 (by decide), zu_off (by decide)]; exact h23) (fun k h1 h2 => by rw [zu_off (by decide), hk2 27 (by decide), zu_off (by decide)]; exact hwo k h1 h2) (fun k h1 h2 => by rw [zu_off (by decide), hk2 28 (by decide), zu_off (by decide)]; exact hwc k h1 h2) (by rw [show zTq2 r p9 1 = [] from (zTq2_no (fun q9 => q9.1 hW.1)).trans rfl, List.append_nil]; rw [zTq1_if htm]; have h9 : zSends (zu r1 21 0 (-1)) (r1 22 0) 0 41 = zSends (zT2 r p9 how w) (r 22 0) 0 41 := (by rw [e22, zSends_ag ha9]; try rfl); rw [h9] at hring2; exact hring2.ag (zu_off (by decide)) (zu_off (by decide)) (zu_off (by decide)))))
  have kD : ∀ (n i : Nat) (r1 : zS) (G1 : zG), i + n = 41 → 1 ≤ i → zModR B y ma r1 G1 → zAg r1 (zHandN (zDie r p9 how w) p9 (zHeir 40 (zDie r p9 how w) (pn (r 1 p9))) i) → r1 23 = r 23 → (∀ k, 1 ≤ k → k < 41 → r1 27 k = zb (zOrph r (nI k))) → (∀ k, 1 ≤ k → k < i → r1 28 k = zb (r 0 k ≠ 0 ∧ r 1 k = nI p9)) → zRing r1 q → zV p l e ({ frames := 2, cells := 0, slots := 0, locals := 47 } : Room) s m args below meth c D (zA G s.heap.size) 0 0 (zZ below D G (fun v G9 => v = none ∧ ∃ r2, zModR B y ma r2 G9 ∧ zAg r2 (zT3 r p9 how w) ∧ r2 23 = r 23 ∧ zRing r2 (q ++ zTq r p9 how w)) args s ({ frames := 2, cells := 0, slots := 0, locals := 47 } : Room)) G1 81 [some (.ref y), some (.int (nI p9)), some (.int how), some (.int w), some (.int (nI (zHeir 40 (zDie r p9 how w) (pn (r 1 p9))))), some (.int (nI i))] [] := by
    intro n
    induction n with
    | zero =>
      intro i r1 G1 hi h1 hR hag h23 hwo hwc hring
      have hi41 : i = 41 := by omega
      subst hi41
      refine zz_iload (pc := 81) C dX3_terminates_81 rfl ?_
      refine zz_bipush (pc := 83) C (v := 40) (by decide) dX3_terminates_83 ?_
      refine zz_icmp_gt (pc := 85) C (tgt := 156) dX3_terminates_85 (by decide) (fun hc85 => ?_) (fun hc85 => ?_)
      · exact zV.less (L' := [some (.ref y), some (.int (nI p9)), some (.int how), some (.int w), none, none]) ⟨rfl, rfl, rfl, rfl, trivial⟩ (kE r1 _ hR hag h23 hwo hwc hring)
      · exact absurd z41 hc85
    | succ n ih =>
      intro i r1 G1 hi h1 hR hag h23 hwo hwc hring
      have e0 : r1 0 i = r 0 i := by rw [hag 0 (by decide), zHandN_off (by decide), zDie_off (by decide)]
      have e1 : r1 1 i = r 1 i := by rw [hag 1 (by decide)]; simp only [zHandN, Nat.lt_irrefl, false_and, and_false, if_false]; rw [zDie_off (by decide)]
      have k149 : ∀ x : Int32, x = (if (r 0 i ≠ 0 ∧ r 1 i = nI p9) then nI (zHeir 40 (zDie r p9 how w) (pn (r 1 p9))) else r1 1 i) → ∀ G2 : zG, zModR B y ma (zu r1 28 i (zb (r 0 i ≠ 0 ∧ r 1 i = nI p9))) G2 → zV p l e ({ frames := 2, cells := 0, slots := 0, locals := 47 } : Room) s m args below meth c D (zA G s.heap.size) 0 0 (zZ below D G (fun v G9 => v = none ∧ ∃ r2, zModR B y ma r2 G9 ∧ zAg r2 (zT3 r p9 how w) ∧ r2 23 = r 23 ∧ zRing r2 (q ++ zTq r p9 how w)) args s ({ frames := 2, cells := 0, slots := 0, locals := 47 } : Room)) G2 149 [some (.ref y), some (.int (nI p9)), some (.int how), some (.int w), some (.int (nI (zHeir 40 (zDie r p9 how w) (pn (r 1 p9))))), some (.int (nI i))] [.int x, .int (nI i), .ref (ma 1)] := by
        intro x hx G2 hR
        have hag3 : zAg (zu (zu r1 28 i (zb (r 0 i ≠ 0 ∧ r 1 i = nI p9))) 1 i x) (zHandN (zDie r p9 how w) p9 (zHeir 40 (zDie r p9 how w) (pn (r 1 p9))) (i + 1)) := by
          have e9 : (zDie r p9 how w) 0 i = r 0 i := by rw [zDie_off (by decide)]
          have e8 : (zDie r p9 how w) 1 i = r 1 i := by rw [zDie_off (by decide)]
          by_cases hk : (r 0 i ≠ 0 ∧ r 1 i = nI p9)
          · rw [zHandN_succ (by rw [e9, e8]; exact hk), hx, if_pos hk]
            exact zAg_zu (zAg_off hag (by decide))
          · rw [zHandN_same (by rw [e9, e8]; exact hk), hx, if_neg hk]
            have : zu (zu r1 28 i (zb (r 0 i ≠ 0 ∧ r 1 i = nI p9))) 1 i (r1 1 i) = zu r1 28 i (zb (r 0 i ≠ 0 ∧ r 1 i = nI p9)) := by
              have h9 : r1 1 i = (zu r1 28 i (zb (r 0 i ≠ 0 ∧ r 1 i = nI p9))) 1 i := by rw [zu_off (by decide)]
              rw [h9]; exact zu_id
            rw [this]
            exact zAg_off hag (by decide)
        have hwc3 : ∀ k, 1 ≤ k → k < i + 1 → (zu (zu r1 28 i (zb (r 0 i ≠ 0 ∧ r 1 i = nI p9))) 1 i x) 28 k = zb (r 0 k ≠ 0 ∧ r 1 k = nI p9) := by
          intro k h2 h3
          rw [zu_off (by decide)]
          by_cases hk : k = i
          · subst hk; rw [zu_self]
          · simp only [zu, if_true, if_neg hk]; exact hwc k h2 (by omega)
        refine zz_mst (pc := 149) C hR 1 (by decide) rfl dX3_terminates_149 rfl (by show _ < 41; omega) (fun G hR => ?_)
        refine zz_iinc (pc := 150) C dX3_terminates_150 rfl ?_
        refine zz_goto (pc := 153) C (tgt := 81) dX3_terminates_153 (by decide) ?_
        exact zV.less (L' := [some (.ref y), some (.int (nI p9)), some (.int how), some (.int w), some (.int (nI (zHeir 40 (zDie r p9 how w) (pn (r 1 p9))))), some (.int (nI (i + 1)))]) ⟨rfl, rfl, rfl, rfl, rfl, zvi (z1i i), trivial⟩ (ih (i + 1) _ _ (by omega) (by omega) hR hag3 (by rw [zu_off (by decide), zu_off (by decide)]; exact h23) (fun k h1 h2 => by rw [zu_off (by decide), zu_off (by decide)]; exact hwo k h1 h2) hwc3 (hring.ag ((zu_off (by decide)).trans (zu_off (by decide))) ((zu_off (by decide)).trans (zu_off (by decide))) ((zu_off (by decide)).trans (zu_off (by decide)))))
      have k120 : ∀ x : Int32, x = zb (r 0 i ≠ 0 ∧ r 1 i = nI p9) → zV p l e ({ frames := 2, cells := 0, slots := 0, locals := 47 } : Room) s m args below meth c D (zA G s.heap.size) 0 0 (zZ below D G (fun v G9 => v = none ∧ ∃ r2, zModR B y ma r2 G9 ∧ zAg r2 (zT3 r p9 how w) ∧ r2 23 = r 23 ∧ zRing r2 (q ++ zTq r p9 how w)) args s ({ frames := 2, cells := 0, slots := 0, locals := 47 } : Room)) G1 120 [some (.ref y), some (.int (nI p9)), some (.int how), some (.int w), some (.int (nI (zHeir 40 (zDie r p9 how w) (pn (r 1 p9))))), some (.int (nI i))] [.int x, .int (nI i), .ref (ma 28)] := by
        intro x hx
        subst hx
        refine zz_mstz (pc := 120) C hR 28 (by decide) rfl dX3_terminates_120 rfl (by show _ < 41; omega) zb_vp (fun G hR => ?_)
        refine zz_aload_n (pc := 121) C dX3_terminates_121 rfl ?_
        refine zz_get (pc := 122) C in_X3_terminates_X3 (ci := 3) rfl 1 (by decide) (fl_X3_terminates_13) rfl dX3_terminates_122 hR.2.1 rfl ?_
        refine zz_iload (pc := 125) C dX3_terminates_125 rfl ?_
        refine zz_aload_n (pc := 127) C dX3_terminates_127 rfl ?_
        refine zz_get (pc := 128) C in_X3_terminates_X3 (ci := 3) rfl 28 (by decide) (fl_X3_terminates_87) rfl dX3_terminates_128 hR.2.1 rfl ?_
        refine zz_iload (pc := 131) C dX3_terminates_131 rfl ?_
        refine zz_mldz (pc := 133) C hR 28 (by decide) rfl dX3_terminates_133 rfl (by show _ < 41; omega) ?_
        refine zz_if_eq (pc := 134) C (tgt := 142) dX3_terminates_134 (by decide) (fun hc134 => ?_) (fun hc134 => ?_)
        · refine zz_aload_n (pc := 142) C dX3_terminates_142 rfl ?_
          refine zz_get (pc := 143) C in_X3_terminates_X3 (ci := 3) rfl 1 (by decide) (fl_X3_terminates_13) rfl dX3_terminates_143 hR.2.1 rfl ?_
          refine zz_iload (pc := 146) C dX3_terminates_146 rfl ?_
          refine zz_mld (pc := 148) C hR 1 (by decide) rfl dX3_terminates_148 rfl (by show _ < 41; omega) ?_
          have h8 : (zu r1 28 i (zb (r 0 i ≠ 0 ∧ r 1 i = nI p9))) 28 i = zb (r 0 i ≠ 0 ∧ r 1 i = nI p9) := zu_self
          rw [h8] at hc134
          first
            | exact k149 _ (if_pos (zb_ne.mp hc134)).symm _ hR
            | exact k149 _ (if_neg (zb_eq.mp hc134)).symm _ hR
        · refine zz_iload (pc := 137) C dX3_terminates_137 rfl ?_
          refine zz_goto (pc := 139) C (tgt := 149) dX3_terminates_139 (by decide) ?_
          have h8 : (zu r1 28 i (zb (r 0 i ≠ 0 ∧ r 1 i = nI p9))) 28 i = zb (r 0 i ≠ 0 ∧ r 1 i = nI p9) := zu_self
          rw [h8] at hc134
          first
            | exact k149 _ (if_pos (zb_ne.mp hc134)).symm _ hR
            | exact k149 _ (if_neg (zb_eq.mp hc134)).symm _ hR
      refine zz_iload (pc := 81) C dX3_terminates_81 rfl ?_
      refine zz_bipush (pc := 83) C (v := 40) (by decide) dX3_terminates_83 ?_
      refine zz_icmp_gt (pc := 85) C (tgt := 156) dX3_terminates_85 (by decide) (fun hc85 => ?_) (fun hc85 => ?_)
      · exact absurd hc85 (z40 (by omega))
      · refine zz_aload_n (pc := 88) C dX3_terminates_88 rfl ?_
        refine zz_get (pc := 89) C in_X3_terminates_X3 (ci := 3) rfl 28 (by decide) (fl_X3_terminates_87) rfl dX3_terminates_89 hR.2.1 rfl ?_
        refine zz_iload (pc := 92) C dX3_terminates_92 rfl ?_
        refine zz_aload_n (pc := 94) C dX3_terminates_94 rfl ?_
        refine zz_get (pc := 95) C in_X3_terminates_X3 (ci := 3) rfl 0 (by decide) (fl_X3_terminates_7) rfl dX3_terminates_95 hR.2.1 rfl ?_
        refine zz_iload (pc := 98) C dX3_terminates_98 rfl ?_
        refine zz_mldz (pc := 100) C hR 0 (by decide) rfl dX3_terminates_100 rfl (by show _ < 41; omega) ?_
        refine zz_if_eq (pc := 101) C (tgt := 119) dX3_terminates_101 (by decide) (fun hc101 => ?_) (fun hc101 => ?_)
        · refine zz_iconst (pc := 119) C (v := 0) (by decide) dX3_terminates_119 ?_
          exact k120 _ (by first | exact (zb_f (fun q9 => q9.1 (by rw [← e0]; exact hc101))).symm | exact (zb_f (fun q9 => hc112 (by rw [e1]; exact q9.2))).symm | exact (zb_t ⟨by rw [← e0]; exact hc101, by rw [← e1]; exact Classical.not_not.mp hc112⟩).symm)
        · refine zz_aload_n (pc := 104) C dX3_terminates_104 rfl ?_
          refine zz_get (pc := 105) C in_X3_terminates_X3 (ci := 3) rfl 1 (by decide) (fl_X3_terminates_13) rfl dX3_terminates_105 hR.2.1 rfl ?_
          refine zz_iload (pc := 108) C dX3_terminates_108 rfl ?_
          refine zz_mld (pc := 110) C hR 1 (by decide) rfl dX3_terminates_110 rfl (by show _ < 41; omega) ?_
          refine zz_iload_n (pc := 111) C dX3_terminates_111 rfl ?_
          refine zz_icmp_ne (pc := 112) C (tgt := 119) dX3_terminates_112 (by decide) (fun hc112 => ?_) (fun hc112 => ?_)
          · refine zz_iconst (pc := 119) C (v := 0) (by decide) dX3_terminates_119 ?_
            exact k120 _ (by first | exact (zb_f (fun q9 => q9.1 (by rw [← e0]; exact hc101))).symm | exact (zb_f (fun q9 => hc112 (by rw [e1]; exact q9.2))).symm | exact (zb_t ⟨by rw [← e0]; exact hc101, by rw [← e1]; exact Classical.not_not.mp hc112⟩).symm)
          · refine zz_iconst (pc := 115) C (v := 1) (by decide) dX3_terminates_115 ?_
            refine zz_goto (pc := 116) C (tgt := 120) dX3_terminates_116 (by decide) ?_
            exact k120 _ (by first | exact (zb_f (fun q9 => q9.1 (by rw [← e0]; exact hc101))).symm | exact (zb_f (fun q9 => hc112 (by rw [e1]; exact q9.2))).symm | exact (zb_t ⟨by rw [← e0]; exact hc101, by rw [← e1]; exact Classical.not_not.mp hc112⟩).symm)
  have kB : ∀ (r1 : zS) (G1 : zG), zModR B y ma r1 G1 → zAg r1 r → r1 23 = r 23 → (∀ k, 1 ≤ k → k < 41 → r1 27 k = zb (zOrph r (nI k))) → zRing r1 q → zV p l e ({ frames := 2, cells := 0, slots := 0, locals := 47 } : Room) s m args below meth c D (zA G s.heap.size) 0 0 (zZ below D G (fun v G9 => v = none ∧ ∃ r2, zModR B y ma r2 G9 ∧ zAg r2 (zT3 r p9 how w) ∧ r2 23 = r 23 ∧ zRing r2 (q ++ zTq r p9 how w)) args s ({ frames := 2, cells := 0, slots := 0, locals := 47 } : Room)) G1 29 [some (.ref y), some (.int (nI p9)), some (.int how), some (.int w), none, none] [] := by
    intro r1 G1 hR hag h23 hwo hring
    refine zz_aload_n (pc := 29) C dX3_terminates_29 rfl ?_
    refine zz_get (pc := 30) C in_X3_terminates_X3 (ci := 3) rfl 4 (by decide) (fl_X3_terminates_23) rfl dX3_terminates_30 hR.2.1 rfl ?_
    refine zz_iload_n (pc := 33) C dX3_terminates_33 rfl ?_
    refine zz_iconst (pc := 34) C (v := 1) (by decide) dX3_terminates_34 ?_
    refine zz_mstz (pc := 35) C hR 4 (by decide) rfl dX3_terminates_35 rfl (by show _ < 41; omega) (by first | rfl | exact zb_vp) (fun G hR => ?_)
    refine zz_aload_n (pc := 36) C dX3_terminates_36 rfl ?_
    refine zz_get (pc := 37) C in_X3_terminates_X3 (ci := 3) rfl 14 (by decide) (fl_X3_terminates_53) rfl dX3_terminates_37 hR.2.1 rfl ?_
    refine zz_iload_n (pc := 40) C dX3_terminates_40 rfl ?_
    refine zz_iload_n (pc := 41) C dX3_terminates_41 rfl ?_
    refine zz_mst (pc := 42) C hR 14 (by decide) rfl dX3_terminates_42 rfl (by show _ < 41; omega) (fun G hR => ?_)
    refine zz_aload_n (pc := 43) C dX3_terminates_43 rfl ?_
    refine zz_get (pc := 44) C in_X3_terminates_X3 (ci := 3) rfl 15 (by decide) (fl_X3_terminates_56) rfl dX3_terminates_44 hR.2.1 rfl ?_
    refine zz_iload_n (pc := 47) C dX3_terminates_47 rfl ?_
    refine zz_iload_n (pc := 48) C dX3_terminates_48 rfl ?_
    refine zz_mst (pc := 49) C hR 15 (by decide) rfl dX3_terminates_49 rfl (by show _ < 41; omega) (fun G hR => ?_)
    refine zz_aload_n (pc := 50) C dX3_terminates_50 rfl ?_
    refine zz_get (pc := 51) C in_X3_terminates_X3 (ci := 3) rfl 11 (by decide) (fl_X3_terminates_44) rfl dX3_terminates_51 hR.2.1 rfl ?_
    refine zz_iload_n (pc := 54) C dX3_terminates_54 rfl ?_
    refine zz_iconst (pc := 55) C (v := 0) (by decide) dX3_terminates_55 ?_
    refine zz_mst (pc := 56) C hR 11 (by decide) rfl dX3_terminates_56 rfl (by show _ < 41; omega) (fun G hR => ?_)
    refine zz_aload_n (pc := 57) C dX3_terminates_57 rfl ?_
    refine zz_get (pc := 58) C in_X3_terminates_X3 (ci := 3) rfl 6 (by decide) (fl_X3_terminates_29) rfl dX3_terminates_58 hR.2.1 rfl ?_
    refine zz_iload_n (pc := 61) C dX3_terminates_61 rfl ?_
    refine zz_iconst (pc := 62) C (v := 0) (by decide) dX3_terminates_62 ?_
    refine zz_mstz (pc := 63) C hR 6 (by decide) rfl dX3_terminates_63 rfl (by show _ < 41; omega) (by first | rfl | exact zb_vp) (fun G hR => ?_)
    refine zz_aload_n (pc := 64) C dX3_terminates_64 rfl ?_
    refine zz_get (pc := 65) C in_X3_terminates_X3 (ci := 3) rfl 5 (by decide) (fl_X3_terminates_26) rfl dX3_terminates_65 hR.2.1 rfl ?_
    refine zz_iload_n (pc := 68) C dX3_terminates_68 rfl ?_
    refine zz_iconst (pc := 69) C (v := 0) (by decide) dX3_terminates_69 ?_
    refine zz_mstz (pc := 70) C hR 5 (by decide) rfl dX3_terminates_70 rfl (by show _ < 41; omega) (by first | rfl | exact zb_vp) (fun G hR => ?_)
    refine zz_aload_n (pc := 71) C dX3_terminates_71 rfl ?_
    refine zz_iload_n (pc := 72) C dX3_terminates_72 rfl ?_
    refine zz_callV (pc := 73) C (c_X3_heir l D hR (p9 := p9) (j := j) (n := 39) (by omega) (by simp only [zu]; rw [hag 1 (by decide)]; exact hj) (ha.ag (by rw [← hag 0 (by decide)]; rfl) (by rw [← hag 1 (by decide)]; rfl))) gX3_terminates_X3_heir rfl 1 (by decide +kernel) ⟨Nat.le_of_ble_eq_true rfl, Nat.le_of_ble_eq_true rfl⟩ hR.2.1 (ci := 3) rfl rfl rfl dX3_terminates_73 rfl (Nat.le_of_ble_eq_true rfl) rfl ⟨Nat.le_of_ble_eq_true rfl, Nat.le_of_ble_eq_true rfl⟩ ?_
    rintro v G9 ⟨rfl, rfl⟩
    have hd : zAg (zu (zu (zu (zu (zu (zu r1 4 p9 1) 14 p9 how) 15 p9 w) 11 p9 0) 6 p9 0) 5 p9 0) (zDie r p9 how w) := zAg_zu (zAg_zu (zAg_zu (zAg_zu (zAg_zu (zAg_zu hag)))))
    rw [zHeir_ag (hd 1 (by decide)) (hd 4 (by decide)) (hd 13 (by decide)) 40 j, ← hHe]
    refine zz_istore (pc := 76) C dX3_terminates_76 (Nat.le_of_ble_eq_true rfl) ?_
    refine zz_iconst (pc := 78) C (v := 1) (by decide) dX3_terminates_78 ?_
    refine zz_istore (pc := 79) C dX3_terminates_79 (Nat.le_of_ble_eq_true rfl) ?_
    exact zV.less (L' := [some (.ref y), some (.int (nI p9)), some (.int how), some (.int w), some (.int (nI (zHeir 40 (zDie r p9 how w) (pn (r 1 p9))))), some (.int (nI 1))]) ⟨rfl, rfl, rfl, rfl, rfl, rfl, trivial⟩ (kD 40 1 _ _ rfl (Nat.le_refl _) hR (by rw [zHandN_1 (by rw [zDie_off (by decide)]; exact hW.1)]; exact hd) h23 hwo (fun k h1 h2 => absurd h1 (by omega)) (hring.ag rfl rfl rfl))
  have kA : ∀ (n i : Nat) (r1 : zS) (G1 : zG), i + n = 41 → 1 ≤ i → zModR B y ma r1 G1 → zAg r1 r → r1 23 = r 23 → (∀ k, 1 ≤ k → k < i → r1 27 k = zb (zOrph r (nI k))) → zRing r1 q → zV p l e ({ frames := 2, cells := 0, slots := 0, locals := 47 } : Room) s m args below meth c D (zA G s.heap.size) 0 0 (zZ below D G (fun v G9 => v = none ∧ ∃ r2, zModR B y ma r2 G9 ∧ zAg r2 (zT3 r p9 how w) ∧ r2 23 = r 23 ∧ zRing r2 (q ++ zTq r p9 how w)) args s ({ frames := 2, cells := 0, slots := 0, locals := 47 } : Room)) G1 3 [some (.ref y), some (.int (nI p9)), some (.int how), some (.int w), some (.int (nI i)), none] [] := by
    intro n
    induction n with
    | zero =>
      intro i r1 G1 hi h1 hR hag h23 hwo hring
      have hi41 : i = 41 := by omega
      subst hi41
      refine zz_iload (pc := 3) C dX3_terminates_3 rfl ?_
      refine zz_bipush (pc := 5) C (v := 40) (by decide) dX3_terminates_5 ?_
      refine zz_icmp_gt (pc := 7) C (tgt := 29) dX3_terminates_7 (by decide) (fun hc7 => ?_) (fun hc7 => ?_)
      · exact zV.less (L' := [some (.ref y), some (.int (nI p9)), some (.int how), some (.int w), none, none]) ⟨rfl, rfl, rfl, rfl, trivial⟩ (kB r1 _ hR hag h23 hwo hring)
      · exact absurd z41 hc7
    | succ n ih =>
      intro i r1 G1 hi h1 hR hag h23 hwo hring
      refine zz_iload (pc := 3) C dX3_terminates_3 rfl ?_
      refine zz_bipush (pc := 5) C (v := 40) (by decide) dX3_terminates_5 ?_
      refine zz_icmp_gt (pc := 7) C (tgt := 29) dX3_terminates_7 (by decide) (fun hc7 => ?_) (fun hc7 => ?_)
      · exact absurd hc7 (z40 (by omega))
      · refine zz_aload_n (pc := 10) C dX3_terminates_10 rfl ?_
        refine zz_get (pc := 11) C in_X3_terminates_X3 (ci := 3) rfl 27 (by decide) (fl_X3_terminates_84) rfl dX3_terminates_11 hR.2.1 rfl ?_
        refine zz_iload (pc := 14) C dX3_terminates_14 rfl ?_
        refine zz_aload_n (pc := 16) C dX3_terminates_16 rfl ?_
        refine zz_iload (pc := 17) C dX3_terminates_17 rfl ?_
        refine zz_callV (pc := 19) C (c_X3_orphaned l D hR (g := nI i) (by rw [hag 0 (by decide)]; exact hW.1) (hW.par hag)) gX3_terminates_X3_orphaned rfl 1 (by decide +kernel) ⟨Nat.le_of_ble_eq_true rfl, Nat.le_of_ble_eq_true rfl⟩ hR.2.1 (ci := 3) rfl rfl rfl dX3_terminates_19 rfl (Nat.le_of_ble_eq_true rfl) rfl ⟨Nat.le_of_ble_eq_true rfl, Nat.le_of_ble_eq_true rfl⟩ ?_
        rintro v G9 ⟨rfl, rfl⟩
        rw [zb_congr (zOrph_ag hag)]
        refine zz_mstz (pc := 22) C hR 27 (by decide) rfl dX3_terminates_22 rfl (by show _ < 41; omega) zb_vp (fun G hR => ?_)
        refine zz_iinc (pc := 23) C dX3_terminates_23 rfl ?_
        refine zz_goto (pc := 26) C (tgt := 3) dX3_terminates_26 (by decide) ?_
        exact zV.less (L' := [some (.ref y), some (.int (nI p9)), some (.int how), some (.int w), some (.int (nI (i + 1))), none]) ⟨rfl, rfl, rfl, rfl, zvi (z1i i), trivial⟩ (ih (i + 1) _ _ (by omega) (by omega) hR (zAg_off hag (by decide)) h23 (fun k h1 h2 => by
          by_cases hk : k = i
          · subst hk; rw [zu_self]
          · simp only [zu, if_true, if_neg hk]; exact hwo k h1 (by omega)) (hring.ag rfl rfl rfl))
  refine zz_iconst (pc := 0) C (v := 1) (by decide) dX3_terminates_0 ?_
  refine zz_istore (pc := 1) C dX3_terminates_1 (Nat.le_of_ble_eq_true rfl) ?_
  exact zV.less (L' := [some (.ref y), some (.int (nI p9)), some (.int how), some (.int w), some (.int (nI 1)), none]) ⟨rfl, rfl, rfl, rfl, rfl, trivial⟩ (kA 40 1 r G rfl (Nat.le_refl _) hR (fun _ _ => rfl) rfl (fun k h1 h2 => absurd h1 (by omega)) hring)
