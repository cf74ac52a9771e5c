theorem zPF_11 {σ : zS} {k : Nat} {f : Nat → Int32} {v : Int32} (hf : zPF σ k f) : zPF (zu σ 11 k v) k (upd f 15 v) := by
  obtain ⟨a0, a2, a3, a4, a5, a6, a7, a8, a10, a11, a12, a13, a14, a15, a16, a17, a18, a19⟩ := hf
  exact ⟨a0, a2, a3, a4, a5, a6, a7, a8, a10, a11, a12, a13, a14, by simp [zu, upd], a16, a17, a18, a19⟩
theorem zPF_12 {σ : zS} {k : Nat} {f : Nat → Int32} {v : Int32} (hf : zPF σ k f) : zPF (zu σ 12 k v) k (upd f 16 v) := by
  obtain ⟨a0, a2, a3, a4, a5, a6, a7, a8, a10, a11, a12, a13, a14, a15, a16, a17, a18, a19⟩ := hf
  exact ⟨a0, a2, a3, a4, a5, a6, a7, a8, a10, a11, a12, a13, a14, a15, by simp [zu, upd], a17, a18, a19⟩
theorem zOwn_11 {σ : zS} {k : Nat} {v : Int32} : zOwn σ (zu σ 11 k v) k := zOwn.rf.put (g := 11) (v := v) (by decide) (by decide) (by decide)
theorem zOwn_12 {σ : zS} {k : Nat} {v : Int32} : zOwn σ (zu σ 12 k v) k := zOwn.rf.put (g := 12) (v := v) (by decide) (by decide) (by decide)
theorem zPF_catch {σ : zS} {k : Nat} {f : Nat → Int32} (hf : zPF σ k f) : zPF (zCatch σ k) k (zCatF f) := by
  have h12 : f 16 = σ 12 k := hf.2.2.2.2.2.2.2.2.2.2.2.2.2.2.1
  have h7 : f 7 = σ 6 k := hf.2.2.2.2.2.2.1
  unfold zCatch zCatF
  rw [h12, h7]
  by_cases h6 : σ 6 k ≠ 0
  · rw [if_pos h6, if_pos h6]
    exact zPF_ends (zPF_12 hf)
  · rw [if_neg h6, if_neg h6]
    exact zPF_12 hf
theorem zOwn.tr {a b c : zS} {k : Nat} (h1 : zOwn a b k) (h2 : zOwn b c k) : zOwn a c k := by
  obtain ⟨a0, a1, a2, a3, a4, a5⟩ := h1
  obtain ⟨b0, b1, b2, b3, b4, b5⟩ := h2
  exact ⟨fun j => (b0 j).trans (a0 j), fun j => (b1 j).trans (a1 j), fun g j h u v w => (b2 g j h u v w).trans (a2 g j h u v w), fun j s h u => (b3 j s h u).trans (a3 j s h u), b4.trans a4, b5.trans a5⟩
theorem zOwn_catch {σ : zS} {k : Nat} : zOwn σ (zCatch σ k) k := by
  unfold zCatch
  split
  · exact zOwn_12.tr zOwn_ends
  · exact zOwn_12
theorem zActF_eq {σ : zS} {k s : Nat} {f : Nat → Int32} (hf : zPF σ k f) (h : σ 9 (9 * k + s) = 0 ∨ σ 9 (9 * k + s) = 1 ∨ σ 9 (9 * k + s) = 2) (hs : s < 9) : zActF f (nI s) = zAct σ k s := by
  have h9 := hf.2.2.2.2.2.2.2.2.2.2.1 s hs
  show (if zbt (f 13) s then (2 : Int32) else if zbt (f 12) s then 1 else 0) = σ 9 (9 * k + s)
  rcases h with z | z | z
  · rw [if_neg (fun u => by have := h9.1.mp u; rw [z] at this; exact absurd this (by decide)), if_neg (fun u => by have := h9.2.mp u; rw [z] at this; exact absurd this (by decide)), z]
  · rw [if_neg (fun u => by have := h9.1.mp u; rw [z] at this; exact absurd this (by decide)), if_pos (h9.2.mpr z), z]
  · rw [if_pos (h9.1.mpr z), z]
theorem zWf.act {σ : zS} (h : zWf σ) {k s : Nat} (hk : σ 0 k ≠ 0) (hs : s < 9) : σ 9 (9 * k + s) = 0 ∨ σ 9 (9 * k + s) = 1 ∨ σ 9 (9 * k + s) = 2 := (h.1 k hk).2.2.2.2 s hs
theorem c_clCon (l : Launch) (D : va_G) {G : zG} {w : Int64} {s9 : Nat} {x9 : Int32} (hs : s9 < 64) (hx : x9 = nI s9) : zMet D l yX2_contains wsX2_contains ({ frames := 0, cells := 0, slots := 0, locals := 0 } : Room) [.long w, .int x9] G (fun v G9 => v = some (.int (zb (zlbit w s9 = true))) ∧ G9 = G) := by
  subst hx
  exact c_X2_contains l D hs
theorem zpf1 {α β : Type} {a : α} {b : β} : (a, b).1 = a := rfl
theorem zpf2 {α β : Type} {a : α} {b : β} : (a, b).2 = b := rfl
theorem zDel_mk {x : zS × List zEv} {p : Nat} : zDel x p = (zCheck (zDfold p x 9).1 p, (zDfold p x 9).2) := by unfold zDel; with_reducible rfl
theorem zDel_1 {x : zS × List zEv} {p : Nat} : (zDel x p).1 = zCheck (zDfold p x 9).1 p := (congrArg Prod.fst zDel_mk).trans zpf1
theorem zDel_2 {x : zS × List zEv} {p : Nat} : (zDel x p).2 = (zDfold p x 9).2 := (congrArg Prod.snd zDel_mk).trans zpf2
theorem zDfold_z {x : zS × List zEv} {p : Nat} : zDfold p x 0 = x := by unfold zDfold; exact Eq.refl _
theorem zTerm_1 {x : zS × List zEv} {p : Nat} {a b : Int32} : (zTerm x p a b).1 = zT3 x.1 p a b := by unfold zTerm; exact Eq.refl _
theorem zTerm_2 {x : zS × List zEv} {p : Nat} {a b : Int32} : (zTerm x p a b).2 = x.2 ++ zTq x.1 p a b := by unfold zTerm; exact Eq.refl _
theorem zStop_2 {x : zS × List zEv} {p s : Nat} : (zStop x p s).2 = x.2 ++ [(10, p)] := by unfold zStop; exact Eq.refl _
theorem zDfold_dead {x : zS × List zEv} {p i : Nat} (h : ¬ ((zDfold p x i).1 4 p = 0 ∧ (zDfold p x i).1 5 p = 0)) : ∀ d : Nat, zDfold p x (i + d) = zDfold p x i
  | 0 => rfl
  | d + 1 => by
    rw [← Nat.add_assoc, zDfold_succ, zDfold_dead h d]
    exact zDstep_no (fun z => h ⟨z.1, z.2.1⟩)
theorem z9le {i : Nat} (h : i < 9) : ¬ (9 : Int32) ≤ nI i := fun z => by
  have := (nI_leI (a := 9) (b := i) (by decide) (by omega)).mp z
  omega
theorem zDfold_len {x : zS × List zEv} {p : Nat} (h : zWf x.1) (h0 : x.1 0 p ≠ 0) (h1 : p ≠ 1) {i : Nat} (hi : i < 9) : (zDfold p x i).2.length ≤ (zDfold p x (i + 1)).2.length := by
  have a1 := zSt.dfold h h0 h1 (n := i) (by omega)
  obtain ⟨_, _, q', h9, _⟩ := zSt.dstep (p := p) (s := i) a1.1 (by rw [zDfold_0f]; exact h0) h1 (by omega)
  rw [zDfold_succ, h9, List.length_append]
  omega
theorem fl_X2_deliver_194 : Cond.fieldLink RX2 194 "Signalpost$Proc" "zombie" "Z" ∈ wsX2_deliver := by decide +kernel
theorem fl_X2_deliver_191 : Cond.fieldLink RX2 191 "Signalpost$Proc" "stopped" "Z" ∈ wsX2_deliver := by decide +kernel
theorem fl_X2_deliver_154 : Cond.fieldLink RX2 154 "Signalpost$Proc" "pending" "I" ∈ wsX2_deliver := by decide +kernel
theorem fl_X2_deliver_91 : Cond.fieldLink RX2 91 "Signalpost$Proc" "mask" "I" ∈ wsX2_deliver := by decide +kernel
theorem fl_X2_deliver_103 : Cond.fieldLink RX2 103 "Signalpost$Proc" "group" "I" ∈ wsX2_deliver := by decide +kernel
theorem in_X2_deliver_X1 : ∀ w ∈ u_ws RX1 TX1 20, w ∈ wsX2_deliver := by decide +kernel
set_option maxHeartbeats 16000000 in
set_option maxRecDepth 100000 in
theorem c_X2_deliver (l : Launch) (D : va_G) {B G : zG} {x tb ev : Nat} {A : Nat → Nat} {σ : zS} {q : List zEv} {h m0 : Nat} {p9 : Nat} {q2 : List zEv} (hC : zCl B x tb ev A σ q h m0 G) (hW : zWf σ) (hp0 : σ 0 p9 ≠ 0) (hp1 : p9 ≠ 1) (hq : q2 = (zDel (σ, q) p9).2) (ht : h + q2.length ≤ 16384) : zMet D l yX2_deliver wsX2_deliver (zRmA 6 161 m0 (h + q2.length)) [.ref x, .ref (A p9)] G (fun v G9 => v = none ∧ zCl B x tb ev A (zDel (σ, q) p9).1 q2 h (max m0 (h + q2.length)) G9) := by
  have hpin := hW.in hp0
  obtain ⟨X, hX⟩ : ∃ X : Nat → zS × List zEv, ∀ i, X i = zDfold p9 (σ, q) i := ⟨_, fun _ => rfl⟩
  have hXS : ∀ i, X (i + 1) = zDstep p9 (X i) i := fun i => by rw [hX, hX, zDfold_succ]
  have hW9 : ∀ i, i ≤ 9 → zWf (X i).1 := fun i hi => by rw [hX]; exact (zSt.dfold (x := (σ, q)) hW hp0 hp1 hi).1
  have h0X : ∀ i, (X i).1 0 p9 ≠ 0 := fun i => by rw [hX, zDfold_0f]; exact hp0
  have hm : ∀ i, i < 9 → h + (X i).2.length ≤ h + (X (i + 1)).2.length := fun i hi => by
    have := zDfold_len (x := (σ, q)) (p := p9) hW hp0 hp1 hi
    rw [hX, hX]
    omega
  have hm9 : ∀ d i, i + d = 9 → h + (X i).2.length ≤ h + (X 9).2.length := by
    intro d
    induction d with
    | zero => intro i hi; rw [show i = 9 by omega]; exact Nat.le_refl _
    | succ d ih => intro i hi; exact Nat.le_trans (hm i (by omega)) (ih (i + 1) (by omega))
  have hq9 : q2 = (X 9).2 := by rw [hq, hX, zDel_2]
  have hmT : ∀ i, i ≤ 9 → h + (X i).2.length ≤ h + q2.length := fun i hi => by rw [hq9]; exact hm9 (9 - i) i (by omega)
  have hdead : ∀ i, i ≤ 9 → ¬ ((X i).1 4 p9 = 0 ∧ (X i).1 5 p9 = 0) → X 9 = X i := fun i hi hn => by
    rw [hX] at hn
    have h9 := zDfold_dead hn (9 - i)
    rw [show i + (9 - i) = 9 by omega] at h9
    rw [hX, hX, h9]
  obtain ⟨τ9, hτ9⟩ : ∃ τ9 : zS, τ9 = zCheck (X 9).1 p9 := ⟨_, rfl⟩
  rw [show (zDel (σ, q) p9).1 = τ9 from by rw [hτ9, hX, zDel_1]]
  refine zMet_of (cc := cX2_deliver) (maxL := 4) (ret := none) (by decide) rfl (Nat.le_of_ble_eq_true rfl) ?_
  intro p e s m args below meth c C hmn
  have fin : ∀ (i : Nat) (G1 : zG), X 9 = X i → zCl B x tb ev A (X (i)).1 (X (i)).2 h (max m0 (h + (X (i)).2.length)) G1 → zV p l e (zRmA 6 161 m0 (h + q2.length)) s m args below meth c D (zA G s.heap.size) (zW m0 (h + (X (i)).2.length)) (4 * zW m0 (h + (X (i)).2.length)) (zZ below D G (fun v G9 => v = none ∧ zCl B x tb ev A τ9 q2 h (max m0 (h + q2.length)) G9) args s (zRmA 6 161 m0 (h + q2.length))) G1 117 [some (.ref x), some (.ref (A p9)), none, none] [] := by
    intro i G1 he hC
    rw [← he] at hC ⊢
    refine zz_aload_n (pc := 117) C dX2_deliver_117 rfl ?_
    refine zz_aload_n (pc := 118) C dX2_deliver_118 rfl ?_
    refine zz_callV (pc := 119) C (c_X2_checkWait l D (p9 := p9) hC (hW9 9 (Nat.le_refl _)).has (hW9 9 (Nat.le_refl _)).wt hpin.2 (h0X 9)) gX2_deliver_X2_checkWait rfl 1 (by decide +kernel) ⟨Nat.le_of_ble_eq_true rfl, Nat.le_of_ble_eq_true rfl⟩ hC.x (ci := 2) rfl rfl rfl dX2_deliver_119 rfl (Nat.le_of_ble_eq_true rfl) rfl (zRm_0 (a := h + (X (9)).2.length) (by rw [hq9]; exact Nat.le_refl _)) ?_
    rintro v G9 ⟨rfl, hC⟩
    refine zV.wid0 ?_
    exact zz_return (pc := 122) C dX2_deliver_122 (zRm_end (by rw [hq9]; exact Nat.le_refl _)).1 (zRm_end (by rw [hq9]; exact Nat.le_refl _)).2 ⟨rfl, by rw [hq9, hτ9]; exact hC⟩
  have loop : ∀ (n i : Nat) (G1 : zG), i + n = 9 → zCl B x tb ev A (X (i)).1 (X (i)).2 h (max m0 (h + (X (i)).2.length)) G1 → zV p l e (zRmA 6 161 m0 (h + q2.length)) s m args below meth c D (zA G s.heap.size) (zW m0 (h + (X (i)).2.length)) (4 * zW m0 (h + (X (i)).2.length)) (zZ below D G (fun v G9 => v = none ∧ zCl B x tb ev A τ9 q2 h (max m0 (h + q2.length)) G9) args s (zRmA 6 161 m0 (h + q2.length))) G1 2 [some (.ref x), some (.ref (A p9)), some (.int (nI (i))), none] [] := by
    intro n
    induction n with
    | zero =>
      intro i G1 hi hC
      have hi9 : i = 9 := by omega
      subst hi9
      refine zz_iload_n (pc := 2) C dX2_deliver_2 rfl ?_
      refine zz_bipush (pc := 3) C (v := 9) (by decide) dX2_deliver_3 ?_
      refine zz_icmp_ge (pc := 5) C (tgt := 117) dX2_deliver_5 (by decide) (fun hc5 => ?_) (fun hc5 => ?_)
      · exact zV.less (L' := [some (.ref x), some (.ref (A p9)), none, none]) ⟨rfl, rfl, trivial⟩ (fin 9 _ rfl hC)
      · exact absurd z99 hc5
    | succ n ih =>
      intro i G1 hi hC
      obtain ⟨f, hGa, hPF, hup⟩ := hC.at (k := p9) hpin.2 (h0X i)
      refine zz_iload_n (pc := 2) C dX2_deliver_2 rfl ?_
      refine zz_bipush (pc := 3) C (v := 9) (by decide) dX2_deliver_3 ?_
      refine zz_icmp_ge (pc := 5) C (tgt := 117) dX2_deliver_5 (by decide) (fun hc5 => ?_) (fun hc5 => ?_)
      · exact absurd hc5 (z9le (by omega))
      · refine zz_aload_n (pc := 8) C dX2_deliver_8 rfl ?_
        refine zz_get (pc := 9) C in_X2_deliver_X1 (ci := 1) rfl 5 (by decide) (fl_X2_deliver_194) rfl dX2_deliver_9 hGa rfl ?_
        refine zz_if_ne (pc := 12) C (tgt := 117) dX2_deliver_12 (by decide) (fun hc12 => ?_) (fun hc12 => ?_)
        · exact zV.less (L' := [some (.ref x), some (.ref (A p9)), none, none]) ⟨rfl, rfl, trivial⟩ (fin i _ (hdead i (by omega) (fun z => hc12 (hPF.2.2.2.2.1.trans z.1))) hC)
        · refine zz_aload_n (pc := 15) C dX2_deliver_15 rfl ?_
          refine zz_get (pc := 16) C in_X2_deliver_X1 (ci := 1) rfl 6 (by decide) (fl_X2_deliver_191) rfl dX2_deliver_16 hGa rfl ?_
          refine zz_if_ne (pc := 19) C (tgt := 117) dX2_deliver_19 (by decide) (fun hc19 => ?_) (fun hc19 => ?_)
          · exact zV.less (L' := [some (.ref x), some (.ref (A p9)), none, none]) ⟨rfl, rfl, trivial⟩ (fin i _ (hdead i (by omega) (fun z => hc19 (hPF.2.2.2.2.2.1.trans z.2))) hC)
          · refine zz_aload_n (pc := 22) C dX2_deliver_22 rfl ?_
            refine zz_get (pc := 23) C in_X2_deliver_X1 (ci := 1) rfl 15 (by decide) (fl_X2_deliver_154) rfl dX2_deliver_23 hGa rfl ?_
            refine zz_aload_n (pc := 26) C dX2_deliver_26 rfl ?_
            refine zz_get (pc := 27) C in_X2_deliver_X1 (ci := 1) rfl 14 (by decide) (fl_X2_deliver_91) rfl dX2_deliver_27 hGa rfl ?_
            refine zz_iconst (pc := 30) C (v := -1) (by decide) dX2_deliver_30 ?_
            refine zz_ixor (pc := 31) C dX2_deliver_31 ?_
            refine zz_iand (pc := 32) C dX2_deliver_32 ?_
            refine zz_iconst (pc := 33) C (v := 1) (by decide) dX2_deliver_33 ?_
            refine zz_iload_n (pc := 34) C dX2_deliver_34 rfl ?_
            refine zz_ishl (pc := 35) C dX2_deliver_35 ?_
            refine zz_iand (pc := 36) C dX2_deliver_36 ?_
            refine zz_if_ne (pc := 37) C (tgt := 43) dX2_deliver_37 (by decide) (fun hc37 => ?_) (fun hc37 => ?_)
            · refine zz_aload_n (pc := 43) C dX2_deliver_43 rfl ?_
              refine zz_iload_n (pc := 44) C dX2_deliver_44 rfl ?_
              refine zz_callV (pc := 45) C (c_X1_forget l D hGa) gX2_deliver_X1_forget rfl 1 (by decide +kernel) ⟨Nat.le_of_ble_eq_true rfl, Nat.le_of_ble_eq_true rfl⟩ hGa (ci := 1) rfl rfl rfl dX2_deliver_45 rfl (Nat.le_of_ble_eq_true rfl) rfl (zRm_0 (a := h + (X (i)).2.length) (hmT i (by omega))) ?_
              rintro v G9 ⟨rfl, rfl⟩
              have hp15 : f 15 = (X i).1 11 p9 := hPF.2.2.2.2.2.2.2.2.2.2.2.2.2.1
              have hC : zCl B x tb ev A (zu (X i).1 11 p9 (zClr ((X i).1 11 p9) i)) (X i).2 h (max m0 (h + (X (i)).2.length)) (zU G1 (A p9) (1, .inr (1, zPr (zPar (zTA (X i).1 A) (X i).1 p9) (zForgF f (nI i))))) := by
                have h9 := hup (zu (X i).1 11 p9 (zClr ((X i).1 11 p9) i)) (upd f 15 (zClr ((X i).1 11 p9) i)) zOwn_11 (zPF_11 hPF)
                have e9 : zForgF f (nI i) = upd f 15 (zClr ((X i).1 11 p9) i) := by rw [← hp15]; rfl
                rw [e9]
                exact h9
              obtain ⟨f2, hGb, hPb, hup2⟩ := hC.at (k := p9) hpin.2 (h0X i)
              have hXs : X (i + 1) = zEff ((zu (X i).1 11 p9 (zClr ((X i).1 11 p9) i)), (X i).2) p9 i := by rw [hXS, zDstep_yes ⟨hPF.2.2.2.2.1.symm.trans (Classical.not_not.mp hc12), hPF.2.2.2.2.2.1.symm.trans (Classical.not_not.mp hc19), by rw [hPF.2.2.2.2.2.2.2.2.2.2.2.2.2.1, hPF.2.2.2.2.2.2.2.2.2.2.2.2.1] at hc37; exact hc37⟩]
              have hWy : zWf (zu (X i).1 11 p9 (zClr ((X i).1 11 p9) i)) := (hW9 i (by omega)).p11 (zClr_511 (by omega) ((hW9 i (by omega)).2.2.2.2.2.2.1 p9))
              have hact : zActF f2 (nI i) = zAct ((zu (X i).1 11 p9 (zClr ((X i).1 11 p9) i)), (X i).2).1 p9 i := zActF_eq hPb (hWy.act (h0X i) (by omega)) (by omega)
              have h4y : (zu (X i).1 11 p9 (zClr ((X i).1 11 p9) i)) 4 p9 = 0 := hPF.2.2.2.2.1.symm.trans (Classical.not_not.mp hc12)
              have h5y : (zu (X i).1 11 p9 (zClr ((X i).1 11 p9) i)) 5 p9 = 0 := hPF.2.2.2.2.2.1.symm.trans (Classical.not_not.mp hc19)
              refine zV.wid0 ?_
              refine zz_aload_n (pc := 48) C dX2_deliver_48 rfl ?_
              refine zz_iload_n (pc := 49) C dX2_deliver_49 rfl ?_
              refine zz_callV (pc := 50) C (c_X1_actionFor l D (x := nI i) hGb) gX2_deliver_X1_actionFor rfl 1 (by decide +kernel) ⟨Nat.le_of_ble_eq_true rfl, Nat.le_of_ble_eq_true rfl⟩ hGb (ci := 1) rfl rfl rfl dX2_deliver_50 rfl (Nat.le_of_ble_eq_true rfl) rfl (zRm_0 (a := h + (X (i)).2.length) (hmT i (by omega))) ?_
              rintro v G9 ⟨rfl, rfl⟩
              refine zV.wid0 ?_
              refine zz_istore_n (pc := 53) C dX2_deliver_53 (Nat.le_of_ble_eq_true rfl) ?_
              refine zz_iload_n (pc := 54) C dX2_deliver_54 rfl ?_
              refine zz_iconst (pc := 55) C (v := 2) (by decide) dX2_deliver_55 ?_
              refine zz_icmp_ne (pc := 56) C (tgt := 66) dX2_deliver_56 (by decide) (fun hc56 => ?_) (fun hc56 => ?_)
              · refine zz_iload_n (pc := 66) C dX2_deliver_66 rfl ?_
                refine zz_if_ne (pc := 67) C (tgt := 86) dX2_deliver_67 (by decide) (fun hc67 => ?_) (fun hc67 => ?_)
                · refine zz_iload_n (pc := 86) C dX2_deliver_86 rfl ?_
                  refine zz_if_ne (pc := 87) C (tgt := 111) dX2_deliver_87 (by decide) (fun hc87 => ?_) (fun hc87 => ?_)
                  · refine zz_iinc (pc := 111) C dX2_deliver_111 rfl ?_
                    refine zz_goto (pc := 114) C (tgt := 2) dX2_deliver_114 (by decide) ?_
                    rw [zEff_i (fun z => hc56 (hact.trans z)) (fun z => hc87 (hact.trans z))] at hXs
                    rw [show zu (X i).1 11 p9 (zClr ((X i).1 11 p9) i) = (X (i + 1)).1 from by rw [hXs], show (X i).2 = (X (i + 1)).2 from by rw [hXs]] at hC
                    refine zV.widen (k := zW m0 (h + (X (i + 1)).2.length)) (n := 4 * zW m0 (h + (X (i + 1)).2.length)) (zW_mono (hm i (by omega))) (Nat.mul_le_mul_left 4 (zW_mono (hm i (by omega)))) ?_
                    exact zV.less (L' := [some (.ref x), some (.ref (A p9)), some (.int (nI (i + 1))), none]) ⟨rfl, rfl, zvi (z1i i), trivial⟩ (ih (i + 1) _ (by omega) hC)
                  · exact absurd (Classical.not_not.mp hc87) hc67
                · refine zz_iload_n (pc := 70) C dX2_deliver_70 rfl ?_
                  refine zz_bipush (pc := 71) C (v := 6) (by decide) dX2_deliver_71 ?_
                  refine zz_icmp_eq (pc := 73) C (tgt := 86) dX2_deliver_73 (by decide) (fun hc73 => ?_) (fun hc73 => ?_)
                  · refine zz_iload_n (pc := 86) C dX2_deliver_86 rfl ?_
                    refine zz_if_ne (pc := 87) C (tgt := 111) dX2_deliver_87 (by decide) (fun hc87 => ?_) (fun hc87 => ?_)
                    · exact absurd (Classical.not_not.mp hc67) hc87
                    · have hact0 := hact.symm.trans (Classical.not_not.mp hc87)
                      have hi6 : i = 6 := (nI_eq (by omega) (by decide)).mp (show nI i = nI 6 from hc73)
                      obtain ⟨g9, hg9, hg91, hg92⟩ := (hWy.1 p9 (h0X i)).2.2.1
                      have hfg : f2 2 = nI g9 := hPb.2.1.trans hg9
                      refine zz_aload_n (pc := 90) C dX2_deliver_90 rfl ?_
                      refine zz_callV (pc := 91) C (c_clAttG l D hC hWy.has) gX2_deliver_X2_attachedGroups rfl 0 (by decide +kernel) ⟨Nat.le_of_ble_eq_true rfl, Nat.le_of_ble_eq_true rfl⟩ hC.x (ci := 2) rfl rfl rfl dX2_deliver_91 rfl (Nat.le_of_ble_eq_true rfl) rfl (zRm_0 (a := h + (X (i)).2.length) (hmT i (by omega))) ?_
                      rintro v G9 ⟨w1, rfl, hw1, rfl⟩
                      refine zV.wid0 ?_
                      refine zz_aload_n (pc := 94) C dX2_deliver_94 rfl ?_
                      refine zz_get (pc := 95) C in_X2_deliver_X1 (ci := 1) rfl 2 (by decide) (fl_X2_deliver_103) rfl dX2_deliver_95 hGb rfl ?_
                      refine zz_callS (pc := 98) C (c_clCon l D (w := w1) (s9 := g9) (by omega) hfg) gX2_deliver_X2_contains rfl 2 (by decide +kernel) ⟨Nat.le_of_ble_eq_true rfl, Nat.le_of_ble_eq_true rfl⟩ rfl dX2_deliver_98 rfl (Nat.le_of_ble_eq_true rfl) rfl (zRm_0 (a := h + (X (i)).2.length) (hmT i (by omega))) ?_
                      rintro v G9 ⟨rfl, rfl⟩
                      refine zV.wid0 ?_
                      refine zz_if_eq (pc := 101) C (tgt := 111) dX2_deliver_101 (by decide) (fun hc101 => ?_) (fun hc101 => ?_)
                      · refine zz_iinc (pc := 111) C dX2_deliver_111 rfl ?_
                        refine zz_goto (pc := 114) C (tgt := 2) dX2_deliver_114 (by decide) ?_
                        rw [zEff_o (fun z => hc56 (hact.trans z)) ⟨hact0, hi6⟩ (Classical.not_not.mp (fun z => zb_eq.mp hc101 ((zAtS_o hw1 (by omega)).mpr (by rw [← hg9]; exact z))))] at hXs
                        rw [show zu (X i).1 11 p9 (zClr ((X i).1 11 p9) i) = (X (i + 1)).1 from by rw [hXs], show (X i).2 = (X (i + 1)).2 from by rw [hXs]] at hC
                        refine zV.widen (k := zW m0 (h + (X (i + 1)).2.length)) (n := 4 * zW m0 (h + (X (i + 1)).2.length)) (zW_mono (hm i (by omega))) (Nat.mul_le_mul_left 4 (zW_mono (hm i (by omega)))) ?_
                        exact zV.less (L' := [some (.ref x), some (.ref (A p9)), some (.int (nI (i + 1))), none]) ⟨rfl, rfl, zvi (z1i i), trivial⟩ (ih (i + 1) _ (by omega) hC)
                      · refine zz_aload_n (pc := 104) C dX2_deliver_104 rfl ?_
                        refine zz_aload_n (pc := 105) C dX2_deliver_105 rfl ?_
                        refine zz_bipush (pc := 106) C (v := 6) (by decide) dX2_deliver_106 ?_
                        rw [zEff_s (fun z => hc56 (hact.trans z)) ⟨hact0, hi6⟩ (fun z => (zAtS_o hw1 (by omega)).mp (zbp hc101) (by rw [← hg9]; exact z))] at hXs
                        refine zz_callV (pc := 108) C (c_clStop2 l D (k := p9) (s9 := 6) (q2 := (X (i + 1)).2) hC hpin.2 (h0X i) h4y h5y (by rw [hXs, zStop_2]) (Nat.le_trans (hmT (i + 1) (by omega)) ht) (by decide)) gX2_deliver_X2_stop rfl 2 (by decide +kernel) ⟨Nat.le_of_ble_eq_true rfl, Nat.le_of_ble_eq_true rfl⟩ hC.x (ci := 2) rfl rfl rfl dX2_deliver_108 rfl (Nat.le_of_ble_eq_true rfl) rfl (zRm_ok (a := h + (X (i)).2.length) (b := h + (X (i + 1)).2.length) (hm i (by omega)) (hmT (i + 1) (by omega))) ?_
                        rintro v G9 ⟨rfl, hC⟩
                        rw [zmax (hm i (by omega))] at hC
                        refine zV.widen (k := zW m0 (h + (X (i + 1)).2.length)) (n := 4 * zW m0 (h + (X (i + 1)).2.length)) (zRm_eq (hm i (by omega))).1 (zRm_eq (hm i (by omega))).2 ?_
                        rw [show (zStop ((zu (X i).1 11 p9 (zClr ((X i).1 11 p9) i)), (X i).2) p9 6).1 = (X (i + 1)).1 from by rw [hXs]] at hC
                        refine zz_iinc (pc := 111) C dX2_deliver_111 rfl ?_
                        refine zz_goto (pc := 114) C (tgt := 2) dX2_deliver_114 (by decide) ?_
                        exact zV.less (L' := [some (.ref x), some (.ref (A p9)), some (.int (nI (i + 1))), none]) ⟨rfl, rfl, zvi (z1i i), trivial⟩ (ih (i + 1) _ (by omega) hC)
                  · refine zz_aload_n (pc := 76) C dX2_deliver_76 rfl ?_
                    refine zz_aload_n (pc := 77) C dX2_deliver_77 rfl ?_
                    refine zz_iconst (pc := 78) C (v := 1) (by decide) dX2_deliver_78 ?_
                    refine zz_iload_n (pc := 79) C dX2_deliver_79 rfl ?_
                    have hne6 : i ≠ 6 := fun z => hc73 (by rw [z]; rfl)
                    rw [zEff_t (hact.symm.trans (Classical.not_not.mp hc67)) hne6] at hXs
                    refine zz_callV (pc := 80) C (c_X2_terminate l D (p9 := p9) (how := 1) (w9 := nI i) (q2 := (X (i + 1)).2) hC hWy (h0X i) hp1 (Or.inr rfl) (by rw [hXs, zTerm_2]) (Nat.le_trans (hmT (i + 1) (by omega)) ht)) gX2_deliver_X2_terminate rfl 3 (by decide +kernel) ⟨Nat.le_of_ble_eq_true rfl, Nat.le_of_ble_eq_true rfl⟩ hC.x (ci := 2) rfl rfl rfl dX2_deliver_80 rfl (Nat.le_of_ble_eq_true rfl) rfl (zRm_ok (a := h + (X (i)).2.length) (b := h + (X (i + 1)).2.length) (hm i (by omega)) (hmT (i + 1) (by omega))) ?_
                    rintro v G9 ⟨rfl, hC⟩
                    rw [zmax (hm i (by omega))] at hC
                    refine zV.widen (k := zW m0 (h + (X (i + 1)).2.length)) (n := 4 * zW m0 (h + (X (i + 1)).2.length)) (zRm_eq (hm i (by omega))).1 (zRm_eq (hm i (by omega))).2 ?_
                    rw [show zT3 (zu (X i).1 11 p9 (zClr ((X i).1 11 p9) i)) p9 1 (nI i) = (X (i + 1)).1 from by rw [hXs, zTerm_1]] at hC
                    refine zz_goto (pc := 83) C (tgt := 111) dX2_deliver_83 (by decide) ?_
                    refine zz_iinc (pc := 111) C dX2_deliver_111 rfl ?_
                    refine zz_goto (pc := 114) C (tgt := 2) dX2_deliver_114 (by decide) ?_
                    exact zV.less (L' := [some (.ref x), some (.ref (A p9)), some (.int (nI (i + 1))), none]) ⟨rfl, rfl, zvi (z1i i), trivial⟩ (ih (i + 1) _ (by omega) hC)
              · refine zz_aload_n (pc := 59) C dX2_deliver_59 rfl ?_
                refine zz_callV (pc := 60) C (c_X1_catchSignal l D hGb) gX2_deliver_X1_catchSignal rfl 0 (by decide +kernel) ⟨Nat.le_of_ble_eq_true rfl, Nat.le_of_ble_eq_true rfl⟩ hGb (ci := 1) rfl rfl rfl dX2_deliver_60 rfl (Nat.le_of_ble_eq_true rfl) rfl (zRm_0 (a := h + (X (i)).2.length) (hmT i (by omega))) ?_
                rintro v G9 ⟨rfl, rfl⟩
                have hC := hup2 _ _ zOwn_catch (zPF_catch hPb)
                refine zV.wid0 ?_
                refine zz_goto (pc := 63) C (tgt := 111) dX2_deliver_63 (by decide) ?_
                refine zz_iinc (pc := 111) C dX2_deliver_111 rfl ?_
                refine zz_goto (pc := 114) C (tgt := 2) dX2_deliver_114 (by decide) ?_
                rw [zEff_c (hact.symm.trans (Classical.not_not.mp hc56))] at hXs
                rw [show zCatch (zu (X i).1 11 p9 (zClr ((X i).1 11 p9) i)) p9 = (X (i + 1)).1 from by rw [hXs], show (X i).2 = (X (i + 1)).2 from by rw [hXs]] at hC
                refine zV.widen (k := zW m0 (h + (X (i + 1)).2.length)) (n := 4 * zW m0 (h + (X (i + 1)).2.length)) (zW_mono (hm i (by omega))) (Nat.mul_le_mul_left 4 (zW_mono (hm i (by omega)))) ?_
                exact zV.less (L' := [some (.ref x), some (.ref (A p9)), some (.int (nI (i + 1))), none]) ⟨rfl, rfl, zvi (z1i i), trivial⟩ (ih (i + 1) _ (by omega) hC)
            · refine zz_goto (pc := 40) C (tgt := 111) dX2_deliver_40 (by decide) ?_
              refine zz_iinc (pc := 111) C dX2_deliver_111 rfl ?_
              refine zz_goto (pc := 114) C (tgt := 2) dX2_deliver_114 (by decide) ?_
              have hXs : X (i + 1) = X i := by rw [hXS, zDstep_no (fun z => hc37 (by rw [hPF.2.2.2.2.2.2.2.2.2.2.2.2.2.1, hPF.2.2.2.2.2.2.2.2.2.2.2.2.1]; exact z.2.2))]
              rw [show X i = X (i + 1) from hXs.symm] at hC
              refine zV.widen (k := zW m0 (h + (X (i + 1)).2.length)) (n := 4 * zW m0 (h + (X (i + 1)).2.length)) (zW_mono (hm i (by omega))) (Nat.mul_le_mul_left 4 (zW_mono (hm i (by omega)))) ?_
              exact zV.less (L' := [some (.ref x), some (.ref (A p9)), some (.int (nI (i + 1))), none]) ⟨rfl, rfl, zvi (z1i i), trivial⟩ (ih (i + 1) _ (by omega) hC)
  refine zz_iconst (pc := 0) C (v := 0) (by decide) dX2_deliver_0 ?_
  refine zz_istore_n (pc := 1) C dX2_deliver_1 (Nat.le_of_ble_eq_true rfl) ?_
  have hC0 := zCl_max hC
  rw [show σ = (X 0).1 from by rw [hX, zDfold_z], show q = (X 0).2 from by rw [hX, zDfold_z]] at hC0
  refine zV.widen (k := zW m0 (h + (X (0)).2.length)) (n := 4 * zW m0 (h + (X (0)).2.length)) (Nat.zero_le _) (Nat.zero_le _) ?_
  exact zV.less (L' := [some (.ref x), some (.ref (A p9)), some (.int (nI (0))), none]) ⟨rfl, rfl, rfl, trivial⟩ (loop 9 0 G rfl hC0)
