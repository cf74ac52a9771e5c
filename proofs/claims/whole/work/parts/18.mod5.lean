theorem zAndm1 (x : Int32) : x &&& (-1) = x := zbit_ext (fun s hs => by
  rw [zbit_and]
  have : zbit (-1) s = true := by
    have h9 : ∀ t : Fin 32, zbit (-1) t.val = true := by decide +kernel
    exact h9 ⟨s, hs⟩
  rw [this, Bool.and_true])
theorem zCont_7 {σ : zS} {p s : Nat} (h : s = 7) : zCont σ p s = zu (zu (zu σ 11 p (zClr (σ 11 p) 6)) 17 p (zb (σ 17 p ≠ 0 ∧ σ 5 p = 0))) 5 p 0 := if_pos h
theorem zCont_56 {σ : zS} {p s : Nat} (h7 : ¬ s = 7) (h : s = 5 ∨ s = 6) : zCont σ p s = zu σ 11 p (zClr (σ 11 p) 7) := by
  unfold zCont
  rw [if_neg h7, if_pos h]
theorem zCont_o {σ : zS} {p s : Nat} (h7 : ¬ s = 7) (h : ¬ (s = 5 ∨ s = 6)) : zCont σ p s = σ := by
  unfold zCont
  rw [if_neg h7, if_neg h]
theorem zCont_off {σ : zS} {p s f : Nat} (hf : f ≠ 11 ∧ f ≠ 17 ∧ f ≠ 5) : zCont σ p s f = σ f := by
  unfold zCont
  split
  · rw [zu_off hf.2.2, zu_off hf.2.1, zu_off hf.1]
  · split
    · exact zu_off hf.1
    · rfl
theorem zClr_511 {x : Int32} {s : Nat} (hs : s < 32) (h : x &&& 511 = x) : zClr x s &&& 511 = zClr x s := zbit_small (fun t ht hb => by
  rw [zbit_clr hs ht, Bool.and_eq_true] at hb
  exact zbit_9 h ht hb.1)
theorem zCont_511 {σ : zS} {p s : Nat} (h : σ 11 p &&& 511 = σ 11 p) : zCont σ p s 11 p &&& 511 = zCont σ p s 11 p := by
  unfold zCont
  split
  · rw [zu_off (by decide), zu_off (by decide), zu_self]
    exact zClr_511 (by decide) h
  · split
    · rw [zu_self]
      exact zClr_511 (by decide) h
    · exact h
theorem zTake_2 {x : zS × List zEv} {p s : Nat} (h : s = 2) : zTake x p s = zTerm x p 1 2 := if_pos h
theorem zTake_5s {x : zS × List zEv} {p s : Nat} (h : s = 5) (h5 : x.1 5 p = 0) : zTake x p s = zStop x p 5 := by
  unfold zTake
  rw [if_neg (by rw [h]; decide), if_pos h, if_pos h5]
theorem zTake_5 {x : zS × List zEv} {p s : Nat} (h : s = 5) (h5 : ¬ x.1 5 p = 0) : zTake x p s = x := by
  unfold zTake
  rw [if_neg (by rw [h]; decide), if_pos h, if_neg h5]
theorem zTake_p {x : zS × List zEv} {p s : Nat} (h2 : ¬ s = 2) (h5 : ¬ s = 5) (hh : zHeed x.1 p s) : zTake x p s = (zu x.1 11 p (x.1 11 p ||| zSh s), x.2) := by
  unfold zTake
  rw [if_neg h2, if_neg h5, if_pos hh]
theorem zTake_n {x : zS × List zEv} {p s : Nat} (h2 : ¬ s = 2) (h5 : ¬ s = 5) (hh : ¬ zHeed x.1 p s) : zTake x p s = x := by
  unfold zTake
  rw [if_neg h2, if_neg h5, if_neg hh]
theorem zTake_cases (x : zS × List zEv) (p s : Nat) : zTake x p s = zTerm x p 1 2 ∨ zTake x p s = zStop x p 5 ∨ zTake x p s = x ∨ zTake x p s = (zu x.1 11 p (x.1 11 p ||| zSh s), x.2) := by
  by_cases h2 : s = 2
  · exact Or.inl (zTake_2 h2)
  · by_cases h5 : s = 5
    · by_cases hs : x.1 5 p = 0
      · exact Or.inr (Or.inl (zTake_5s h5 hs))
      · exact Or.inr (Or.inr (Or.inl (zTake_5 h5 hs)))
    · by_cases hh : zHeed x.1 p s
      · exact Or.inr (Or.inr (Or.inr (zTake_p h2 h5 hh)))
      · exact Or.inr (Or.inr (Or.inl (zTake_n h2 h5 hh)))
theorem zTake_live {x : zS × List zEv} {p s : Nat} (h4 : (zTake x p s).1 4 p = 0) : (∀ f, f = 0 ∨ f = 1 ∨ f = 2 ∨ f = 4 → (zTake x p s).1 f = x.1 f) ∧ ((zTake x p s).1 5 p = 0 → (zTake x p s).2 = x.2) := by
  rcases zTake_cases x p s with h | h | h | h <;> rw [h] at h4 ⊢
  · have : zT3 x.1 p 1 2 4 p = 0 := h4
    rw [zT3_4] at this
    exact absurd this (by decide)
  · refine ⟨fun f hf => zStop_off (by omega), fun h5 => ?_⟩
    rw [zStop_5] at h5
    exact absurd h5 (by decide)
  · exact ⟨fun f hf => rfl, fun _ => rfl⟩
  · exact ⟨fun f hf => zu_off (by omega), fun _ => rfl⟩
theorem zTake_0 {x : zS × List zEv} {p s f : Nat} (hf : f = 0 ∨ f = 2 ∨ f = 3 ∨ f = 9 ∨ f = 10) : (zTake x p s).1 f = x.1 f := by
  rcases zTake_cases x p s with h | h | h | h <;> rw [h]
  · show zT3 x.1 p 1 2 f = _
    rw [zT3_off (by omega), zT2_off (by omega)]
  · exact zStop_off (by omega)
  · exact zu_off (by omega)
theorem zTake_511 {x : zS × List zEv} {p s : Nat} (hs : s < 9) (h : x.1 11 p &&& 511 = x.1 11 p) : (zTake x p s).1 11 p &&& 511 = (zTake x p s).1 11 p := by
  rcases zTake_cases x p s with h1 | h1 | h1 | h1 <;> rw [h1]
  · show zT3 x.1 p 1 2 11 p &&& 511 = zT3 x.1 p 1 2 11 p
    rw [zT3_11]; rfl
  · rw [zStop_off (by decide)]; exact h
  · exact h
  · show zu x.1 11 p (x.1 11 p ||| zSh s) 11 p &&& 511 = zu x.1 11 p (x.1 11 p ||| zSh s) 11 p
    rw [zu_self]
    exact zbit_small (fun t ht hb => by
      rw [zbit_or, Bool.or_eq_true] at hb
      rcases hb with hb | hb
      · exact zbit_9 h ht hb
      · rw [zbit_sh (s := s) (by omega) ht, decide_eq_true_eq] at hb
        omega)
theorem zComes_no {x : zS × List zEv} {p s : Nat} (h : x.1 0 p = 0 ∨ x.1 4 p ≠ 0 ∨ p = 1) : zComes x p s = x := if_pos h
theorem zComes_yes {x : zS × List zEv} {p s : Nat} (h : ¬ (x.1 0 p = 0 ∨ x.1 4 p ≠ 0 ∨ p = 1)) : zComes x p s = zDel (zTake (zCont x.1 p s, x.2) p s) p := if_neg h
theorem fl_X3_comes_7 : Cond.fieldLink RX3 7 "SignalpostModel" "isThere" "[Z" ∈ wsX3_comes := by decide +kernel
theorem fl_X3_comes_23 : Cond.fieldLink RX3 23 "SignalpostModel" "isZombie" "[Z" ∈ wsX3_comes := by decide +kernel
theorem fl_X3_comes_44 : Cond.fieldLink RX3 44 "SignalpostModel" "pending" "[I" ∈ wsX3_comes := by decide +kernel
theorem fl_X3_comes_62 : Cond.fieldLink RX3 62 "SignalpostModel" "isNews" "[Z" ∈ wsX3_comes := by decide +kernel
theorem fl_X3_comes_26 : Cond.fieldLink RX3 26 "SignalpostModel" "isStopped" "[Z" ∈ wsX3_comes := by decide +kernel
theorem fl_X3_comes_38 : Cond.fieldLink RX3 38 "SignalpostModel" "action" "[I" ∈ wsX3_comes := by decide +kernel
theorem in_X3_comes_X3 : ∀ w ∈ u_ws RX3 TX3 29, w ∈ wsX3_comes := by decide +kernel
set_option maxHeartbeats 4000000 in
set_option maxRecDepth 100000 in
theorem c_X3_comes (l : Launch) (D : va_G) {B G : zG} {y : Nat} {ma : Nat → Nat} {r : zS} {σ : zS} {q : List zEv} {p9 sg : Nat} (hR : zModR B y ma r G) (hag : zAg r σ) (hp9 : p9 < 41) (h00 : σ 0 0 = 0) (hlv : σ 0 p9 ≠ 0 → σ 4 p9 = 0 → p9 ≠ 1 → zLv σ p9) (h511 : σ 11 p9 &&& 511 = σ 11 p9) (hs : sg < 9) (hring : zRing r q) (hroom : q.length + 300 < 8192) : zMet D l yX3_comes wsX3_comes ({ frames := 5, cells := 0, slots := 0, locals := 118 } : Room) [.ref y, .int (nI p9), .int (nI sg)] G (fun v G9 => v = none ∧ ∃ r2, zModR B y ma r2 G9 ∧ zAg r2 (zComes (σ, q) p9 sg).1 ∧ r2 23 = r 23 ∧ zRing r2 (zComes (σ, q) p9 sg).2) := by
  refine zMet_of (cc := cX3_comes) (maxL := 4) (ret := none) (by decide) rfl (Nat.le_of_ble_eq_true rfl) ?_
  intro p e s m args below meth c C hmn
  by_cases hno : σ 0 p9 = 0 ∨ σ 4 p9 ≠ 0 ∨ p9 = 1
  · skip
    refine zz_aload_n (pc := 0) C dX3_comes_0 rfl ?_
    refine zz_get (pc := 1) C in_X3_comes_X3 (ci := 3) rfl 0 (by decide) (fl_X3_comes_7) rfl dX3_comes_1 hR.2.1 rfl ?_
    refine zz_iload_n (pc := 4) C dX3_comes_4 rfl ?_
    refine zz_mldz (pc := 5) C hR 0 (by decide) rfl dX3_comes_5 rfl (by show _ < 41; omega) ?_
    refine zz_if_eq (pc := 6) C (tgt := 23) dX3_comes_6 (by decide) (fun hc6 => ?_) (fun hc6 => ?_)
    · exact zz_return (pc := 23) C dX3_comes_23 (Nat.le_refl _) (Nat.le_refl _) ⟨rfl, r, hR, by rw [zComes_no hno]; exact hag, rfl, by rw [zComes_no hno]; exact hring⟩
    · refine zz_aload_n (pc := 9) C dX3_comes_9 rfl ?_
      refine zz_get (pc := 10) C in_X3_comes_X3 (ci := 3) rfl 4 (by decide) (fl_X3_comes_23) rfl dX3_comes_10 hR.2.1 rfl ?_
      refine zz_iload_n (pc := 13) C dX3_comes_13 rfl ?_
      refine zz_mldz (pc := 14) C hR 4 (by decide) rfl dX3_comes_14 rfl (by show _ < 41; omega) ?_
      refine zz_if_ne (pc := 15) C (tgt := 23) dX3_comes_15 (by decide) (fun hc15 => ?_) (fun hc15 => ?_)
      · exact zz_return (pc := 23) C dX3_comes_23 (Nat.le_refl _) (Nat.le_refl _) ⟨rfl, r, hR, by rw [zComes_no hno]; exact hag, rfl, by rw [zComes_no hno]; exact hring⟩
      · refine zz_iload_n (pc := 18) C dX3_comes_18 rfl ?_
        refine zz_iconst (pc := 19) C (v := 1) (by decide) dX3_comes_19 ?_
        refine zz_icmp_ne (pc := 20) C (tgt := 24) dX3_comes_20 (by decide) (fun hc20 => ?_) (fun hc20 => ?_)
        · exact absurd hno (fun q9 => q9.elim (fun z => hc6 (by rw [hag 0 (by decide)]; exact z)) (fun z => z.elim (fun z => hc15 (by rw [hag 4 (by decide)]; exact z)) (fun z => hc20 (by rw [z]; rfl))))
        · exact zz_return (pc := 23) C dX3_comes_23 (Nat.le_refl _) (Nat.le_refl _) ⟨rfl, r, hR, by rw [zComes_no hno]; exact hag, rfl, by rw [zComes_no hno]; exact hring⟩
  · have hL : zLv σ p9 := hlv (fun z => hno (Or.inl z)) (Classical.not_not.mp (fun z => hno (Or.inr (Or.inl z)))) (fun z => hno (Or.inr (Or.inr z)))
    have hp := hL.2.2.1
    have hf0 : (zTake (zCont σ p9 sg, q) p9 sg).1 0 0 = 0 := by rw [zTake_0 (by decide)]; show zCont σ p9 sg 0 0 = 0; rw [zCont_off (by decide)]; exact h00
    have hfL : (zTake (zCont σ p9 sg, q) p9 sg).1 4 p9 = 0 → zLv (zTake (zCont σ p9 sg, q) p9 sg).1 p9 := fun h4 => by
      have h9 := (zTake_live h4).1
      exact hL.ag ((h9 0 (by decide)).trans (zCont_off (by decide))) ((h9 1 (by decide)).trans (zCont_off (by decide))) ((h9 2 (by decide)).trans (zCont_off (by decide)))
    have hf5 : (zTake (zCont σ p9 sg, q) p9 sg).1 11 p9 &&& 511 = (zTake (zCont σ p9 sg, q) p9 sg).1 11 p9 := zTake_511 hs (zCont_511 h511)
    have hfr : (zTake (zCont σ p9 sg, q) p9 sg).1 4 p9 = 0 → (zTake (zCont σ p9 sg, q) p9 sg).1 5 p9 = 0 → (zTake (zCont σ p9 sg, q) p9 sg).2.length + 300 < 8192 := fun h4 h5 => by rw [(zTake_live h4).2 h5]; exact hroom
    have k186 : ∀ (r1 : zS) (G1 : zG) (a : Option Value), zModR B y ma r1 G1 → zAg r1 (zTake (zCont σ p9 sg, q) p9 sg).1 → r1 23 = r 23 → zRing r1 (zTake (zCont σ p9 sg, q) p9 sg).2 → zV p l e ({ frames := 5, cells := 0, slots := 0, locals := 118 } : Room) s m args below meth c D (zA G s.heap.size) 0 0 (zZ below D G (fun v G9 => v = none ∧ ∃ r2, zModR B y ma r2 G9 ∧ zAg r2 (zComes (σ, q) p9 sg).1 ∧ r2 23 = r 23 ∧ zRing r2 (zComes (σ, q) p9 sg).2) args s ({ frames := 5, cells := 0, slots := 0, locals := 118 } : Room)) G1 186 [some (.ref y), some (.int (nI p9)), some (.int (nI sg)), a] [] := by
      intro r1 G1 a hR hag h23 hring
      refine zz_aload_n (pc := 186) C dX3_comes_186 rfl ?_
      refine zz_iload_n (pc := 187) C dX3_comes_187 rfl ?_
      refine zz_callV (pc := 188) C (c_X3_delivers l D hR hag (by omega) hf0 hfL hf5 hring hfr) gX3_comes_X3_delivers rfl 1 (by decide +kernel) ⟨Nat.le_of_ble_eq_true rfl, Nat.le_of_ble_eq_true rfl⟩ hR.2.1 (ci := 3) rfl rfl rfl dX3_comes_188 rfl (Nat.le_of_ble_eq_true rfl) rfl ⟨Nat.le_of_ble_eq_true rfl, Nat.le_of_ble_eq_true rfl⟩ ?_
      rintro v G9 ⟨rfl, r2, hR2, hag2, h232, hring2⟩
      exact zz_return (pc := 191) C dX3_comes_191 (Nat.le_refl _) (Nat.le_refl _) ⟨rfl, r2, hR2, by rw [zComes_yes hno]; exact hag2, h232.trans h23, by rw [zComes_yes hno]; exact hring2⟩
    have k104 : ∀ (r1 : zS) (G1 : zG), zModR B y ma r1 G1 → zAg r1 (zCont σ p9 sg) → r1 23 = r 23 → zRing r1 q → zV p l e ({ frames := 5, cells := 0, slots := 0, locals := 118 } : Room) s m args below meth c D (zA G s.heap.size) 0 0 (zZ below D G (fun v G9 => v = none ∧ ∃ r2, zModR B y ma r2 G9 ∧ zAg r2 (zComes (σ, q) p9 sg).1 ∧ r2 23 = r 23 ∧ zRing r2 (zComes (σ, q) p9 sg).2) args s ({ frames := 5, cells := 0, slots := 0, locals := 118 } : Room)) G1 104 [some (.ref y), some (.int (nI p9)), some (.int (nI sg)), none] [] := by
      intro r1 G1 hR hag h23 hring
      refine zz_aload_n (pc := 104) C dX3_comes_104 rfl ?_
      refine zz_get (pc := 105) C in_X3_comes_X3 (ci := 3) rfl 9 (by decide) (fl_X3_comes_38) rfl dX3_comes_105 hR.2.1 rfl ?_
      refine zz_bipush (pc := 108) C (v := 9) (by decide) dX3_comes_108 ?_
      refine zz_iload_n (pc := 110) C dX3_comes_110 rfl ?_
      refine zz_imul (pc := 111) C dX3_comes_111 ?_
      refine zz_iload_n (pc := 112) C dX3_comes_112 rfl ?_
      refine zz_iadd (pc := 113) C dX3_comes_113 ?_
      refine zz_mld (pc := 114) C hR 9 (by decide) rfl dX3_comes_114 (i := 9 * p9 + sg) (by rw [show (9 : Int32) * nI p9 = nI (9 * p9) from pk_mul 9 p9, nI_add]) (by show _ < 369; omega) ?_
      refine zz_istore_n (pc := 115) C dX3_comes_115 (Nat.le_of_ble_eq_true rfl) ?_
      have hA : r1 9 (9 * p9 + sg) = zAct (zCont σ p9 sg) p9 sg := zAct_ag hag
      refine zz_iload_n (pc := 116) C dX3_comes_116 rfl ?_
      refine zz_iconst (pc := 117) C (v := 2) (by decide) dX3_comes_117 ?_
      refine zz_icmp_ne (pc := 118) C (tgt := 131) dX3_comes_118 (by decide) (fun hc118 => ?_) (fun hc118 => ?_)
      · refine zz_iload_n (pc := 131) C dX3_comes_131 rfl ?_
        refine zz_iconst (pc := 132) C (v := 5) (by decide) dX3_comes_132 ?_
        refine zz_icmp_ne (pc := 133) C (tgt := 154) dX3_comes_133 (by decide) (fun hc133 => ?_) (fun hc133 => ?_)
        · refine zz_iload_n (pc := 154) C dX3_comes_154 rfl ?_
          refine zz_iconst (pc := 155) C (v := 2) (by decide) dX3_comes_155 ?_
          refine zz_icmp_eq (pc := 156) C (tgt := 174) dX3_comes_156 (by decide) (fun hc156 => ?_) (fun hc156 => ?_)
          · refine zz_aload_n (pc := 174) C dX3_comes_174 rfl ?_
            refine zz_get (pc := 175) C in_X3_comes_X3 (ci := 3) rfl 11 (by decide) (fl_X3_comes_44) rfl dX3_comes_175 hR.2.1 rfl ?_
            refine zz_iload_n (pc := 178) C dX3_comes_178 rfl ?_
            refine zz_dup2 (pc := 179) C dX3_comes_179 rfl rfl ?_
            refine zz_mld (pc := 180) C hR 11 (by decide) rfl dX3_comes_180 rfl (by show _ < 41; omega) ?_
            refine zz_iconst (pc := 181) C (v := 1) (by decide) dX3_comes_181 ?_
            refine zz_iload_n (pc := 182) C dX3_comes_182 rfl ?_
            refine zz_ishl (pc := 183) C dX3_comes_183 ?_
            refine zz_ior (pc := 184) C dX3_comes_184 ?_
            refine zz_mst (pc := 185) C hR 11 (by decide) rfl dX3_comes_185 rfl (by show _ < 41; omega) (fun G hR => ?_)
            first
              | exact k186 r2 _ _ hR2 (by rw [zTake_2 (show sg = 2 from (nI_eq (by omega) (by decide)).mp (show nI sg = nI 2 from Classical.not_not.mp hc118))]; exact hag2) (h232.trans h23) (by rw [zTake_2 (show sg = 2 from (nI_eq (by omega) (by decide)).mp (show nI sg = nI 2 from Classical.not_not.mp hc118))]; exact hring2)
              | exact k186 r2 _ _ hR2 (by rw [zTake_5s (show sg = 5 from (nI_eq (by omega) (by decide)).mp (show nI sg = nI 5 from Classical.not_not.mp hc133)) (by show zCont σ p9 sg 5 p9 = 0; rw [← hag 5 (by decide)]; exact Classical.not_not.mp hc142)]; exact hag2) (h232.trans h23) (by rw [zTake_5s (show sg = 5 from (nI_eq (by omega) (by decide)).mp (show nI sg = nI 5 from Classical.not_not.mp hc133)) (by show zCont σ p9 sg 5 p9 = 0; rw [← hag 5 (by decide)]; exact Classical.not_not.mp hc142)]; exact hring2)
              | exact k186 r1 _ _ hR (by rw [zTake_5 (show sg = 5 from (nI_eq (by omega) (by decide)).mp (show nI sg = nI 5 from Classical.not_not.mp hc133)) (by show ¬ zCont σ p9 sg 5 p9 = 0; rw [← hag 5 (by decide)]; exact hc142)]; exact hag) h23 (by rw [zTake_5 (show sg = 5 from (nI_eq (by omega) (by decide)).mp (show nI sg = nI 5 from Classical.not_not.mp hc133)) (by show ¬ zCont σ p9 sg 5 p9 = 0; rw [← hag 5 (by decide)]; exact hc142)]; exact hring)
              | exact k186 _ _ _ hR (by rw [zTake_p (show ¬ sg = 2 from fun z => hc118 (by rw [z]; decide)) (show ¬ sg = 5 from fun z => hc133 (by rw [z]; decide)) (Or.inl (hA.symm.trans hc156))]; show zAg _ (zu (zCont σ p9 sg) 11 p9 (zCont σ p9 sg 11 p9 ||| zSh sg)); rw [← hag 11 (by decide)]; exact zAg_zu hag) h23 (by rw [zTake_p (show ¬ sg = 2 from fun z => hc118 (by rw [z]; decide)) (show ¬ sg = 5 from fun z => hc133 (by rw [z]; decide)) (Or.inl (hA.symm.trans hc156))]; exact hring.ag rfl rfl rfl)
              | exact k186 _ _ _ hR (by rw [zTake_p (show ¬ sg = 2 from fun z => hc118 (by rw [z]; decide)) (show ¬ sg = 5 from fun z => hc133 (by rw [z]; decide)) (Or.inr ⟨hA.symm.trans (Classical.not_not.mp hc160), fun z => hc165 (by rw [z]; decide), fun z => hc171 (by rw [z]; decide)⟩)]; show zAg _ (zu (zCont σ p9 sg) 11 p9 (zCont σ p9 sg 11 p9 ||| zSh sg)); rw [← hag 11 (by decide)]; exact zAg_zu hag) h23 (by rw [zTake_p (show ¬ sg = 2 from fun z => hc118 (by rw [z]; decide)) (show ¬ sg = 5 from fun z => hc133 (by rw [z]; decide)) (Or.inr ⟨hA.symm.trans (Classical.not_not.mp hc160), fun z => hc165 (by rw [z]; decide), fun z => hc171 (by rw [z]; decide)⟩)]; exact hring.ag rfl rfl rfl)
              | exact k186 r1 _ _ hR (by rw [zTake_n (show ¬ sg = 2 from fun z => hc118 (by rw [z]; decide)) (show ¬ sg = 5 from fun z => hc133 (by rw [z]; decide)) (fun z => z.elim (fun w => hc156 (hA.trans w)) (fun w => hc160 (hA.trans w.1)))]; exact hag) h23 (by rw [zTake_n (show ¬ sg = 2 from fun z => hc118 (by rw [z]; decide)) (show ¬ sg = 5 from fun z => hc133 (by rw [z]; decide)) (fun z => z.elim (fun w => hc156 (hA.trans w)) (fun w => hc160 (hA.trans w.1)))]; exact hring)
              | exact k186 r1 _ _ hR (by rw [zTake_n (show ¬ sg = 2 from fun z => hc118 (by rw [z]; decide)) (show ¬ sg = 5 from fun z => hc133 (by rw [z]; decide)) (fun z => z.elim (fun w => hc156 (hA.trans w)) (fun w => w.2.1 ((nI_eq (by omega) (by decide)).mp (show nI sg = nI 4 from hc165))))]; exact hag) h23 (by rw [zTake_n (show ¬ sg = 2 from fun z => hc118 (by rw [z]; decide)) (show ¬ sg = 5 from fun z => hc133 (by rw [z]; decide)) (fun z => z.elim (fun w => hc156 (hA.trans w)) (fun w => w.2.1 ((nI_eq (by omega) (by decide)).mp (show nI sg = nI 4 from hc165))))]; exact hring)
              | exact k186 r1 _ _ hR (by rw [zTake_n (show ¬ sg = 2 from fun z => hc118 (by rw [z]; decide)) (show ¬ sg = 5 from fun z => hc133 (by rw [z]; decide)) (fun z => z.elim (fun w => hc156 (hA.trans w)) (fun w => w.2.2 ((nI_eq (by omega) (by decide)).mp (show nI sg = nI 7 from hc171))))]; exact hag) h23 (by rw [zTake_n (show ¬ sg = 2 from fun z => hc118 (by rw [z]; decide)) (show ¬ sg = 5 from fun z => hc133 (by rw [z]; decide)) (fun z => z.elim (fun w => hc156 (hA.trans w)) (fun w => w.2.2 ((nI_eq (by omega) (by decide)).mp (show nI sg = nI 7 from hc171))))]; exact hring)
          · refine zz_iload_n (pc := 159) C dX3_comes_159 rfl ?_
            refine zz_if_ne (pc := 160) C (tgt := 186) dX3_comes_160 (by decide) (fun hc160 => ?_) (fun hc160 => ?_)
            · first
                | exact k186 r2 _ _ hR2 (by rw [zTake_2 (show sg = 2 from (nI_eq (by omega) (by decide)).mp (show nI sg = nI 2 from Classical.not_not.mp hc118))]; exact hag2) (h232.trans h23) (by rw [zTake_2 (show sg = 2 from (nI_eq (by omega) (by decide)).mp (show nI sg = nI 2 from Classical.not_not.mp hc118))]; exact hring2)
                | exact k186 r2 _ _ hR2 (by rw [zTake_5s (show sg = 5 from (nI_eq (by omega) (by decide)).mp (show nI sg = nI 5 from Classical.not_not.mp hc133)) (by show zCont σ p9 sg 5 p9 = 0; rw [← hag 5 (by decide)]; exact Classical.not_not.mp hc142)]; exact hag2) (h232.trans h23) (by rw [zTake_5s (show sg = 5 from (nI_eq (by omega) (by decide)).mp (show nI sg = nI 5 from Classical.not_not.mp hc133)) (by show zCont σ p9 sg 5 p9 = 0; rw [← hag 5 (by decide)]; exact Classical.not_not.mp hc142)]; exact hring2)
                | exact k186 r1 _ _ hR (by rw [zTake_5 (show sg = 5 from (nI_eq (by omega) (by decide)).mp (show nI sg = nI 5 from Classical.not_not.mp hc133)) (by show ¬ zCont σ p9 sg 5 p9 = 0; rw [← hag 5 (by decide)]; exact hc142)]; exact hag) h23 (by rw [zTake_5 (show sg = 5 from (nI_eq (by omega) (by decide)).mp (show nI sg = nI 5 from Classical.not_not.mp hc133)) (by show ¬ zCont σ p9 sg 5 p9 = 0; rw [← hag 5 (by decide)]; exact hc142)]; exact hring)
                | exact k186 _ _ _ hR (by rw [zTake_p (show ¬ sg = 2 from fun z => hc118 (by rw [z]; decide)) (show ¬ sg = 5 from fun z => hc133 (by rw [z]; decide)) (Or.inl (hA.symm.trans hc156))]; show zAg _ (zu (zCont σ p9 sg) 11 p9 (zCont σ p9 sg 11 p9 ||| zSh sg)); rw [← hag 11 (by decide)]; exact zAg_zu hag) h23 (by rw [zTake_p (show ¬ sg = 2 from fun z => hc118 (by rw [z]; decide)) (show ¬ sg = 5 from fun z => hc133 (by rw [z]; decide)) (Or.inl (hA.symm.trans hc156))]; exact hring.ag rfl rfl rfl)
                | exact k186 _ _ _ hR (by rw [zTake_p (show ¬ sg = 2 from fun z => hc118 (by rw [z]; decide)) (show ¬ sg = 5 from fun z => hc133 (by rw [z]; decide)) (Or.inr ⟨hA.symm.trans (Classical.not_not.mp hc160), fun z => hc165 (by rw [z]; decide), fun z => hc171 (by rw [z]; decide)⟩)]; show zAg _ (zu (zCont σ p9 sg) 11 p9 (zCont σ p9 sg 11 p9 ||| zSh sg)); rw [← hag 11 (by decide)]; exact zAg_zu hag) h23 (by rw [zTake_p (show ¬ sg = 2 from fun z => hc118 (by rw [z]; decide)) (show ¬ sg = 5 from fun z => hc133 (by rw [z]; decide)) (Or.inr ⟨hA.symm.trans (Classical.not_not.mp hc160), fun z => hc165 (by rw [z]; decide), fun z => hc171 (by rw [z]; decide)⟩)]; exact hring.ag rfl rfl rfl)
                | exact k186 r1 _ _ hR (by rw [zTake_n (show ¬ sg = 2 from fun z => hc118 (by rw [z]; decide)) (show ¬ sg = 5 from fun z => hc133 (by rw [z]; decide)) (fun z => z.elim (fun w => hc156 (hA.trans w)) (fun w => hc160 (hA.trans w.1)))]; exact hag) h23 (by rw [zTake_n (show ¬ sg = 2 from fun z => hc118 (by rw [z]; decide)) (show ¬ sg = 5 from fun z => hc133 (by rw [z]; decide)) (fun z => z.elim (fun w => hc156 (hA.trans w)) (fun w => hc160 (hA.trans w.1)))]; exact hring)
                | exact k186 r1 _ _ hR (by rw [zTake_n (show ¬ sg = 2 from fun z => hc118 (by rw [z]; decide)) (show ¬ sg = 5 from fun z => hc133 (by rw [z]; decide)) (fun z => z.elim (fun w => hc156 (hA.trans w)) (fun w => w.2.1 ((nI_eq (by omega) (by decide)).mp (show nI sg = nI 4 from hc165))))]; exact hag) h23 (by rw [zTake_n (show ¬ sg = 2 from fun z => hc118 (by rw [z]; decide)) (show ¬ sg = 5 from fun z => hc133 (by rw [z]; decide)) (fun z => z.elim (fun w => hc156 (hA.trans w)) (fun w => w.2.1 ((nI_eq (by omega) (by decide)).mp (show nI sg = nI 4 from hc165))))]; exact hring)
                | exact k186 r1 _ _ hR (by rw [zTake_n (show ¬ sg = 2 from fun z => hc118 (by rw [z]; decide)) (show ¬ sg = 5 from fun z => hc133 (by rw [z]; decide)) (fun z => z.elim (fun w => hc156 (hA.trans w)) (fun w => w.2.2 ((nI_eq (by omega) (by decide)).mp (show nI sg = nI 7 from hc171))))]; exact hag) h23 (by rw [zTake_n (show ¬ sg = 2 from fun z => hc118 (by rw [z]; decide)) (show ¬ sg = 5 from fun z => hc133 (by rw [z]; decide)) (fun z => z.elim (fun w => hc156 (hA.trans w)) (fun w => w.2.2 ((nI_eq (by omega) (by decide)).mp (show nI sg = nI 7 from hc171))))]; exact hring)
            · refine zz_iload_n (pc := 163) C dX3_comes_163 rfl ?_
              refine zz_iconst (pc := 164) C (v := 4) (by decide) dX3_comes_164 ?_
              refine zz_icmp_eq (pc := 165) C (tgt := 186) dX3_comes_165 (by decide) (fun hc165 => ?_) (fun hc165 => ?_)
              · first
                  | exact k186 r2 _ _ hR2 (by rw [zTake_2 (show sg = 2 from (nI_eq (by omega) (by decide)).mp (show nI sg = nI 2 from Classical.not_not.mp hc118))]; exact hag2) (h232.trans h23) (by rw [zTake_2 (show sg = 2 from (nI_eq (by omega) (by decide)).mp (show nI sg = nI 2 from Classical.not_not.mp hc118))]; exact hring2)
                  | exact k186 r2 _ _ hR2 (by rw [zTake_5s (show sg = 5 from (nI_eq (by omega) (by decide)).mp (show nI sg = nI 5 from Classical.not_not.mp hc133)) (by show zCont σ p9 sg 5 p9 = 0; rw [← hag 5 (by decide)]; exact Classical.not_not.mp hc142)]; exact hag2) (h232.trans h23) (by rw [zTake_5s (show sg = 5 from (nI_eq (by omega) (by decide)).mp (show nI sg = nI 5 from Classical.not_not.mp hc133)) (by show zCont σ p9 sg 5 p9 = 0; rw [← hag 5 (by decide)]; exact Classical.not_not.mp hc142)]; exact hring2)
                  | exact k186 r1 _ _ hR (by rw [zTake_5 (show sg = 5 from (nI_eq (by omega) (by decide)).mp (show nI sg = nI 5 from Classical.not_not.mp hc133)) (by show ¬ zCont σ p9 sg 5 p9 = 0; rw [← hag 5 (by decide)]; exact hc142)]; exact hag) h23 (by rw [zTake_5 (show sg = 5 from (nI_eq (by omega) (by decide)).mp (show nI sg = nI 5 from Classical.not_not.mp hc133)) (by show ¬ zCont σ p9 sg 5 p9 = 0; rw [← hag 5 (by decide)]; exact hc142)]; exact hring)
                  | exact k186 _ _ _ hR (by rw [zTake_p (show ¬ sg = 2 from fun z => hc118 (by rw [z]; decide)) (show ¬ sg = 5 from fun z => hc133 (by rw [z]; decide)) (Or.inl (hA.symm.trans hc156))]; show zAg _ (zu (zCont σ p9 sg) 11 p9 (zCont σ p9 sg 11 p9 ||| zSh sg)); rw [← hag 11 (by decide)]; exact zAg_zu hag) h23 (by rw [zTake_p (show ¬ sg = 2 from fun z => hc118 (by rw [z]; decide)) (show ¬ sg = 5 from fun z => hc133 (by rw [z]; decide)) (Or.inl (hA.symm.trans hc156))]; exact hring.ag rfl rfl rfl)
                  | exact k186 _ _ _ hR (by rw [zTake_p (show ¬ sg = 2 from fun z => hc118 (by rw [z]; decide)) (show ¬ sg = 5 from fun z => hc133 (by rw [z]; decide)) (Or.inr ⟨hA.symm.trans (Classical.not_not.mp hc160), fun z => hc165 (by rw [z]; decide), fun z => hc171 (by rw [z]; decide)⟩)]; show zAg _ (zu (zCont σ p9 sg) 11 p9 (zCont σ p9 sg 11 p9 ||| zSh sg)); rw [← hag 11 (by decide)]; exact zAg_zu hag) h23 (by rw [zTake_p (show ¬ sg = 2 from fun z => hc118 (by rw [z]; decide)) (show ¬ sg = 5 from fun z => hc133 (by rw [z]; decide)) (Or.inr ⟨hA.symm.trans (Classical.not_not.mp hc160), fun z => hc165 (by rw [z]; decide), fun z => hc171 (by rw [z]; decide)⟩)]; exact hring.ag rfl rfl rfl)
                  | exact k186 r1 _ _ hR (by rw [zTake_n (show ¬ sg = 2 from fun z => hc118 (by rw [z]; decide)) (show ¬ sg = 5 from fun z => hc133 (by rw [z]; decide)) (fun z => z.elim (fun w => hc156 (hA.trans w)) (fun w => hc160 (hA.trans w.1)))]; exact hag) h23 (by rw [zTake_n (show ¬ sg = 2 from fun z => hc118 (by rw [z]; decide)) (show ¬ sg = 5 from fun z => hc133 (by rw [z]; decide)) (fun z => z.elim (fun w => hc156 (hA.trans w)) (fun w => hc160 (hA.trans w.1)))]; exact hring)
                  | exact k186 r1 _ _ hR (by rw [zTake_n (show ¬ sg = 2 from fun z => hc118 (by rw [z]; decide)) (show ¬ sg = 5 from fun z => hc133 (by rw [z]; decide)) (fun z => z.elim (fun w => hc156 (hA.trans w)) (fun w => w.2.1 ((nI_eq (by omega) (by decide)).mp (show nI sg = nI 4 from hc165))))]; exact hag) h23 (by rw [zTake_n (show ¬ sg = 2 from fun z => hc118 (by rw [z]; decide)) (show ¬ sg = 5 from fun z => hc133 (by rw [z]; decide)) (fun z => z.elim (fun w => hc156 (hA.trans w)) (fun w => w.2.1 ((nI_eq (by omega) (by decide)).mp (show nI sg = nI 4 from hc165))))]; exact hring)
                  | exact k186 r1 _ _ hR (by rw [zTake_n (show ¬ sg = 2 from fun z => hc118 (by rw [z]; decide)) (show ¬ sg = 5 from fun z => hc133 (by rw [z]; decide)) (fun z => z.elim (fun w => hc156 (hA.trans w)) (fun w => w.2.2 ((nI_eq (by omega) (by decide)).mp (show nI sg = nI 7 from hc171))))]; exact hag) h23 (by rw [zTake_n (show ¬ sg = 2 from fun z => hc118 (by rw [z]; decide)) (show ¬ sg = 5 from fun z => hc133 (by rw [z]; decide)) (fun z => z.elim (fun w => hc156 (hA.trans w)) (fun w => w.2.2 ((nI_eq (by omega) (by decide)).mp (show nI sg = nI 7 from hc171))))]; exact hring)
              · refine zz_iload_n (pc := 168) C dX3_comes_168 rfl ?_
                refine zz_bipush (pc := 169) C (v := 7) (by decide) dX3_comes_169 ?_
                refine zz_icmp_eq (pc := 171) C (tgt := 186) dX3_comes_171 (by decide) (fun hc171 => ?_) (fun hc171 => ?_)
                · first
                    | exact k186 r2 _ _ hR2 (by rw [zTake_2 (show sg = 2 from (nI_eq (by omega) (by decide)).mp (show nI sg = nI 2 from Classical.not_not.mp hc118))]; exact hag2) (h232.trans h23) (by rw [zTake_2 (show sg = 2 from (nI_eq (by omega) (by decide)).mp (show nI sg = nI 2 from Classical.not_not.mp hc118))]; exact hring2)
                    | exact k186 r2 _ _ hR2 (by rw [zTake_5s (show sg = 5 from (nI_eq (by omega) (by decide)).mp (show nI sg = nI 5 from Classical.not_not.mp hc133)) (by show zCont σ p9 sg 5 p9 = 0; rw [← hag 5 (by decide)]; exact Classical.not_not.mp hc142)]; exact hag2) (h232.trans h23) (by rw [zTake_5s (show sg = 5 from (nI_eq (by omega) (by decide)).mp (show nI sg = nI 5 from Classical.not_not.mp hc133)) (by show zCont σ p9 sg 5 p9 = 0; rw [← hag 5 (by decide)]; exact Classical.not_not.mp hc142)]; exact hring2)
                    | exact k186 r1 _ _ hR (by rw [zTake_5 (show sg = 5 from (nI_eq (by omega) (by decide)).mp (show nI sg = nI 5 from Classical.not_not.mp hc133)) (by show ¬ zCont σ p9 sg 5 p9 = 0; rw [← hag 5 (by decide)]; exact hc142)]; exact hag) h23 (by rw [zTake_5 (show sg = 5 from (nI_eq (by omega) (by decide)).mp (show nI sg = nI 5 from Classical.not_not.mp hc133)) (by show ¬ zCont σ p9 sg 5 p9 = 0; rw [← hag 5 (by decide)]; exact hc142)]; exact hring)
                    | exact k186 _ _ _ hR (by rw [zTake_p (show ¬ sg = 2 from fun z => hc118 (by rw [z]; decide)) (show ¬ sg = 5 from fun z => hc133 (by rw [z]; decide)) (Or.inl (hA.symm.trans hc156))]; show zAg _ (zu (zCont σ p9 sg) 11 p9 (zCont σ p9 sg 11 p9 ||| zSh sg)); rw [← hag 11 (by decide)]; exact zAg_zu hag) h23 (by rw [zTake_p (show ¬ sg = 2 from fun z => hc118 (by rw [z]; decide)) (show ¬ sg = 5 from fun z => hc133 (by rw [z]; decide)) (Or.inl (hA.symm.trans hc156))]; exact hring.ag rfl rfl rfl)
                    | exact k186 _ _ _ hR (by rw [zTake_p (show ¬ sg = 2 from fun z => hc118 (by rw [z]; decide)) (show ¬ sg = 5 from fun z => hc133 (by rw [z]; decide)) (Or.inr ⟨hA.symm.trans (Classical.not_not.mp hc160), fun z => hc165 (by rw [z]; decide), fun z => hc171 (by rw [z]; decide)⟩)]; show zAg _ (zu (zCont σ p9 sg) 11 p9 (zCont σ p9 sg 11 p9 ||| zSh sg)); rw [← hag 11 (by decide)]; exact zAg_zu hag) h23 (by rw [zTake_p (show ¬ sg = 2 from fun z => hc118 (by rw [z]; decide)) (show ¬ sg = 5 from fun z => hc133 (by rw [z]; decide)) (Or.inr ⟨hA.symm.trans (Classical.not_not.mp hc160), fun z => hc165 (by rw [z]; decide), fun z => hc171 (by rw [z]; decide)⟩)]; exact hring.ag rfl rfl rfl)
                    | exact k186 r1 _ _ hR (by rw [zTake_n (show ¬ sg = 2 from fun z => hc118 (by rw [z]; decide)) (show ¬ sg = 5 from fun z => hc133 (by rw [z]; decide)) (fun z => z.elim (fun w => hc156 (hA.trans w)) (fun w => hc160 (hA.trans w.1)))]; exact hag) h23 (by rw [zTake_n (show ¬ sg = 2 from fun z => hc118 (by rw [z]; decide)) (show ¬ sg = 5 from fun z => hc133 (by rw [z]; decide)) (fun z => z.elim (fun w => hc156 (hA.trans w)) (fun w => hc160 (hA.trans w.1)))]; exact hring)
                    | exact k186 r1 _ _ hR (by rw [zTake_n (show ¬ sg = 2 from fun z => hc118 (by rw [z]; decide)) (show ¬ sg = 5 from fun z => hc133 (by rw [z]; decide)) (fun z => z.elim (fun w => hc156 (hA.trans w)) (fun w => w.2.1 ((nI_eq (by omega) (by decide)).mp (show nI sg = nI 4 from hc165))))]; exact hag) h23 (by rw [zTake_n (show ¬ sg = 2 from fun z => hc118 (by rw [z]; decide)) (show ¬ sg = 5 from fun z => hc133 (by rw [z]; decide)) (fun z => z.elim (fun w => hc156 (hA.trans w)) (fun w => w.2.1 ((nI_eq (by omega) (by decide)).mp (show nI sg = nI 4 from hc165))))]; exact hring)
                    | exact k186 r1 _ _ hR (by rw [zTake_n (show ¬ sg = 2 from fun z => hc118 (by rw [z]; decide)) (show ¬ sg = 5 from fun z => hc133 (by rw [z]; decide)) (fun z => z.elim (fun w => hc156 (hA.trans w)) (fun w => w.2.2 ((nI_eq (by omega) (by decide)).mp (show nI sg = nI 7 from hc171))))]; exact hag) h23 (by rw [zTake_n (show ¬ sg = 2 from fun z => hc118 (by rw [z]; decide)) (show ¬ sg = 5 from fun z => hc133 (by rw [z]; decide)) (fun z => z.elim (fun w => hc156 (hA.trans w)) (fun w => w.2.2 ((nI_eq (by omega) (by decide)).mp (show nI sg = nI 7 from hc171))))]; exact hring)
                · refine zz_aload_n (pc := 174) C dX3_comes_174 rfl ?_
                  refine zz_get (pc := 175) C in_X3_comes_X3 (ci := 3) rfl 11 (by decide) (fl_X3_comes_44) rfl dX3_comes_175 hR.2.1 rfl ?_
                  refine zz_iload_n (pc := 178) C dX3_comes_178 rfl ?_
                  refine zz_dup2 (pc := 179) C dX3_comes_179 rfl rfl ?_
                  refine zz_mld (pc := 180) C hR 11 (by decide) rfl dX3_comes_180 rfl (by show _ < 41; omega) ?_
                  refine zz_iconst (pc := 181) C (v := 1) (by decide) dX3_comes_181 ?_
                  refine zz_iload_n (pc := 182) C dX3_comes_182 rfl ?_
                  refine zz_ishl (pc := 183) C dX3_comes_183 ?_
                  refine zz_ior (pc := 184) C dX3_comes_184 ?_
                  refine zz_mst (pc := 185) C hR 11 (by decide) rfl dX3_comes_185 rfl (by show _ < 41; omega) (fun G hR => ?_)
                  first
                    | exact k186 r2 _ _ hR2 (by rw [zTake_2 (show sg = 2 from (nI_eq (by omega) (by decide)).mp (show nI sg = nI 2 from Classical.not_not.mp hc118))]; exact hag2) (h232.trans h23) (by rw [zTake_2 (show sg = 2 from (nI_eq (by omega) (by decide)).mp (show nI sg = nI 2 from Classical.not_not.mp hc118))]; exact hring2)
                    | exact k186 r2 _ _ hR2 (by rw [zTake_5s (show sg = 5 from (nI_eq (by omega) (by decide)).mp (show nI sg = nI 5 from Classical.not_not.mp hc133)) (by show zCont σ p9 sg 5 p9 = 0; rw [← hag 5 (by decide)]; exact Classical.not_not.mp hc142)]; exact hag2) (h232.trans h23) (by rw [zTake_5s (show sg = 5 from (nI_eq (by omega) (by decide)).mp (show nI sg = nI 5 from Classical.not_not.mp hc133)) (by show zCont σ p9 sg 5 p9 = 0; rw [← hag 5 (by decide)]; exact Classical.not_not.mp hc142)]; exact hring2)
                    | exact k186 r1 _ _ hR (by rw [zTake_5 (show sg = 5 from (nI_eq (by omega) (by decide)).mp (show nI sg = nI 5 from Classical.not_not.mp hc133)) (by show ¬ zCont σ p9 sg 5 p9 = 0; rw [← hag 5 (by decide)]; exact hc142)]; exact hag) h23 (by rw [zTake_5 (show sg = 5 from (nI_eq (by omega) (by decide)).mp (show nI sg = nI 5 from Classical.not_not.mp hc133)) (by show ¬ zCont σ p9 sg 5 p9 = 0; rw [← hag 5 (by decide)]; exact hc142)]; exact hring)
                    | exact k186 _ _ _ hR (by rw [zTake_p (show ¬ sg = 2 from fun z => hc118 (by rw [z]; decide)) (show ¬ sg = 5 from fun z => hc133 (by rw [z]; decide)) (Or.inl (hA.symm.trans hc156))]; show zAg _ (zu (zCont σ p9 sg) 11 p9 (zCont σ p9 sg 11 p9 ||| zSh sg)); rw [← hag 11 (by decide)]; exact zAg_zu hag) h23 (by rw [zTake_p (show ¬ sg = 2 from fun z => hc118 (by rw [z]; decide)) (show ¬ sg = 5 from fun z => hc133 (by rw [z]; decide)) (Or.inl (hA.symm.trans hc156))]; exact hring.ag rfl rfl rfl)
                    | exact k186 _ _ _ hR (by rw [zTake_p (show ¬ sg = 2 from fun z => hc118 (by rw [z]; decide)) (show ¬ sg = 5 from fun z => hc133 (by rw [z]; decide)) (Or.inr ⟨hA.symm.trans (Classical.not_not.mp hc160), fun z => hc165 (by rw [z]; decide), fun z => hc171 (by rw [z]; decide)⟩)]; show zAg _ (zu (zCont σ p9 sg) 11 p9 (zCont σ p9 sg 11 p9 ||| zSh sg)); rw [← hag 11 (by decide)]; exact zAg_zu hag) h23 (by rw [zTake_p (show ¬ sg = 2 from fun z => hc118 (by rw [z]; decide)) (show ¬ sg = 5 from fun z => hc133 (by rw [z]; decide)) (Or.inr ⟨hA.symm.trans (Classical.not_not.mp hc160), fun z => hc165 (by rw [z]; decide), fun z => hc171 (by rw [z]; decide)⟩)]; exact hring.ag rfl rfl rfl)
                    | exact k186 r1 _ _ hR (by rw [zTake_n (show ¬ sg = 2 from fun z => hc118 (by rw [z]; decide)) (show ¬ sg = 5 from fun z => hc133 (by rw [z]; decide)) (fun z => z.elim (fun w => hc156 (hA.trans w)) (fun w => hc160 (hA.trans w.1)))]; exact hag) h23 (by rw [zTake_n (show ¬ sg = 2 from fun z => hc118 (by rw [z]; decide)) (show ¬ sg = 5 from fun z => hc133 (by rw [z]; decide)) (fun z => z.elim (fun w => hc156 (hA.trans w)) (fun w => hc160 (hA.trans w.1)))]; exact hring)
                    | exact k186 r1 _ _ hR (by rw [zTake_n (show ¬ sg = 2 from fun z => hc118 (by rw [z]; decide)) (show ¬ sg = 5 from fun z => hc133 (by rw [z]; decide)) (fun z => z.elim (fun w => hc156 (hA.trans w)) (fun w => w.2.1 ((nI_eq (by omega) (by decide)).mp (show nI sg = nI 4 from hc165))))]; exact hag) h23 (by rw [zTake_n (show ¬ sg = 2 from fun z => hc118 (by rw [z]; decide)) (show ¬ sg = 5 from fun z => hc133 (by rw [z]; decide)) (fun z => z.elim (fun w => hc156 (hA.trans w)) (fun w => w.2.1 ((nI_eq (by omega) (by decide)).mp (show nI sg = nI 4 from hc165))))]; exact hring)
                    | exact k186 r1 _ _ hR (by rw [zTake_n (show ¬ sg = 2 from fun z => hc118 (by rw [z]; decide)) (show ¬ sg = 5 from fun z => hc133 (by rw [z]; decide)) (fun z => z.elim (fun w => hc156 (hA.trans w)) (fun w => w.2.2 ((nI_eq (by omega) (by decide)).mp (show nI sg = nI 7 from hc171))))]; exact hag) h23 (by rw [zTake_n (show ¬ sg = 2 from fun z => hc118 (by rw [z]; decide)) (show ¬ sg = 5 from fun z => hc133 (by rw [z]; decide)) (fun z => z.elim (fun w => hc156 (hA.trans w)) (fun w => w.2.2 ((nI_eq (by omega) (by decide)).mp (show nI sg = nI 7 from hc171))))]; exact hring)
        · refine zz_aload_n (pc := 136) C dX3_comes_136 rfl ?_
          refine zz_get (pc := 137) C in_X3_comes_X3 (ci := 3) rfl 5 (by decide) (fl_X3_comes_26) rfl dX3_comes_137 hR.2.1 rfl ?_
          refine zz_iload_n (pc := 140) C dX3_comes_140 rfl ?_
          refine zz_mldz (pc := 141) C hR 5 (by decide) rfl dX3_comes_141 rfl (by show _ < 41; omega) ?_
          refine zz_if_ne (pc := 142) C (tgt := 186) dX3_comes_142 (by decide) (fun hc142 => ?_) (fun hc142 => ?_)
          · first
              | exact k186 r2 _ _ hR2 (by rw [zTake_2 (show sg = 2 from (nI_eq (by omega) (by decide)).mp (show nI sg = nI 2 from Classical.not_not.mp hc118))]; exact hag2) (h232.trans h23) (by rw [zTake_2 (show sg = 2 from (nI_eq (by omega) (by decide)).mp (show nI sg = nI 2 from Classical.not_not.mp hc118))]; exact hring2)
              | exact k186 r2 _ _ hR2 (by rw [zTake_5s (show sg = 5 from (nI_eq (by omega) (by decide)).mp (show nI sg = nI 5 from Classical.not_not.mp hc133)) (by show zCont σ p9 sg 5 p9 = 0; rw [← hag 5 (by decide)]; exact Classical.not_not.mp hc142)]; exact hag2) (h232.trans h23) (by rw [zTake_5s (show sg = 5 from (nI_eq (by omega) (by decide)).mp (show nI sg = nI 5 from Classical.not_not.mp hc133)) (by show zCont σ p9 sg 5 p9 = 0; rw [← hag 5 (by decide)]; exact Classical.not_not.mp hc142)]; exact hring2)
              | exact k186 r1 _ _ hR (by rw [zTake_5 (show sg = 5 from (nI_eq (by omega) (by decide)).mp (show nI sg = nI 5 from Classical.not_not.mp hc133)) (by show ¬ zCont σ p9 sg 5 p9 = 0; rw [← hag 5 (by decide)]; exact hc142)]; exact hag) h23 (by rw [zTake_5 (show sg = 5 from (nI_eq (by omega) (by decide)).mp (show nI sg = nI 5 from Classical.not_not.mp hc133)) (by show ¬ zCont σ p9 sg 5 p9 = 0; rw [← hag 5 (by decide)]; exact hc142)]; exact hring)
              | exact k186 _ _ _ hR (by rw [zTake_p (show ¬ sg = 2 from fun z => hc118 (by rw [z]; decide)) (show ¬ sg = 5 from fun z => hc133 (by rw [z]; decide)) (Or.inl (hA.symm.trans hc156))]; show zAg _ (zu (zCont σ p9 sg) 11 p9 (zCont σ p9 sg 11 p9 ||| zSh sg)); rw [← hag 11 (by decide)]; exact zAg_zu hag) h23 (by rw [zTake_p (show ¬ sg = 2 from fun z => hc118 (by rw [z]; decide)) (show ¬ sg = 5 from fun z => hc133 (by rw [z]; decide)) (Or.inl (hA.symm.trans hc156))]; exact hring.ag rfl rfl rfl)
              | exact k186 _ _ _ hR (by rw [zTake_p (show ¬ sg = 2 from fun z => hc118 (by rw [z]; decide)) (show ¬ sg = 5 from fun z => hc133 (by rw [z]; decide)) (Or.inr ⟨hA.symm.trans (Classical.not_not.mp hc160), fun z => hc165 (by rw [z]; decide), fun z => hc171 (by rw [z]; decide)⟩)]; show zAg _ (zu (zCont σ p9 sg) 11 p9 (zCont σ p9 sg 11 p9 ||| zSh sg)); rw [← hag 11 (by decide)]; exact zAg_zu hag) h23 (by rw [zTake_p (show ¬ sg = 2 from fun z => hc118 (by rw [z]; decide)) (show ¬ sg = 5 from fun z => hc133 (by rw [z]; decide)) (Or.inr ⟨hA.symm.trans (Classical.not_not.mp hc160), fun z => hc165 (by rw [z]; decide), fun z => hc171 (by rw [z]; decide)⟩)]; exact hring.ag rfl rfl rfl)
              | exact k186 r1 _ _ hR (by rw [zTake_n (show ¬ sg = 2 from fun z => hc118 (by rw [z]; decide)) (show ¬ sg = 5 from fun z => hc133 (by rw [z]; decide)) (fun z => z.elim (fun w => hc156 (hA.trans w)) (fun w => hc160 (hA.trans w.1)))]; exact hag) h23 (by rw [zTake_n (show ¬ sg = 2 from fun z => hc118 (by rw [z]; decide)) (show ¬ sg = 5 from fun z => hc133 (by rw [z]; decide)) (fun z => z.elim (fun w => hc156 (hA.trans w)) (fun w => hc160 (hA.trans w.1)))]; exact hring)
              | exact k186 r1 _ _ hR (by rw [zTake_n (show ¬ sg = 2 from fun z => hc118 (by rw [z]; decide)) (show ¬ sg = 5 from fun z => hc133 (by rw [z]; decide)) (fun z => z.elim (fun w => hc156 (hA.trans w)) (fun w => w.2.1 ((nI_eq (by omega) (by decide)).mp (show nI sg = nI 4 from hc165))))]; exact hag) h23 (by rw [zTake_n (show ¬ sg = 2 from fun z => hc118 (by rw [z]; decide)) (show ¬ sg = 5 from fun z => hc133 (by rw [z]; decide)) (fun z => z.elim (fun w => hc156 (hA.trans w)) (fun w => w.2.1 ((nI_eq (by omega) (by decide)).mp (show nI sg = nI 4 from hc165))))]; exact hring)
              | exact k186 r1 _ _ hR (by rw [zTake_n (show ¬ sg = 2 from fun z => hc118 (by rw [z]; decide)) (show ¬ sg = 5 from fun z => hc133 (by rw [z]; decide)) (fun z => z.elim (fun w => hc156 (hA.trans w)) (fun w => w.2.2 ((nI_eq (by omega) (by decide)).mp (show nI sg = nI 7 from hc171))))]; exact hag) h23 (by rw [zTake_n (show ¬ sg = 2 from fun z => hc118 (by rw [z]; decide)) (show ¬ sg = 5 from fun z => hc133 (by rw [z]; decide)) (fun z => z.elim (fun w => hc156 (hA.trans w)) (fun w => w.2.2 ((nI_eq (by omega) (by decide)).mp (show nI sg = nI 7 from hc171))))]; exact hring)
          · refine zz_aload_n (pc := 145) C dX3_comes_145 rfl ?_
            refine zz_iload_n (pc := 146) C dX3_comes_146 rfl ?_
            refine zz_iconst (pc := 147) C (v := 5) (by decide) dX3_comes_147 ?_
            refine zz_callV (pc := 148) C (c_mstop l D hR hag (p9 := p9) (sg := 5) (by omega) hring (by omega)) gX3_comes_X3_stops rfl 2 (by decide +kernel) ⟨Nat.le_of_ble_eq_true rfl, Nat.le_of_ble_eq_true rfl⟩ hR.2.1 (ci := 3) rfl rfl rfl dX3_comes_148 rfl (Nat.le_of_ble_eq_true rfl) rfl ⟨Nat.le_of_ble_eq_true rfl, Nat.le_of_ble_eq_true rfl⟩ ?_
            rintro v G9 ⟨rfl, r2, hR2, hag2, h232, hring2⟩
            refine zz_goto (pc := 151) C (tgt := 186) dX3_comes_151 (by decide) ?_
            first
              | exact k186 r2 _ _ hR2 (by rw [zTake_2 (show sg = 2 from (nI_eq (by omega) (by decide)).mp (show nI sg = nI 2 from Classical.not_not.mp hc118))]; exact hag2) (h232.trans h23) (by rw [zTake_2 (show sg = 2 from (nI_eq (by omega) (by decide)).mp (show nI sg = nI 2 from Classical.not_not.mp hc118))]; exact hring2)
              | exact k186 r2 _ _ hR2 (by rw [zTake_5s (show sg = 5 from (nI_eq (by omega) (by decide)).mp (show nI sg = nI 5 from Classical.not_not.mp hc133)) (by show zCont σ p9 sg 5 p9 = 0; rw [← hag 5 (by decide)]; exact Classical.not_not.mp hc142)]; exact hag2) (h232.trans h23) (by rw [zTake_5s (show sg = 5 from (nI_eq (by omega) (by decide)).mp (show nI sg = nI 5 from Classical.not_not.mp hc133)) (by show zCont σ p9 sg 5 p9 = 0; rw [← hag 5 (by decide)]; exact Classical.not_not.mp hc142)]; exact hring2)
              | exact k186 r1 _ _ hR (by rw [zTake_5 (show sg = 5 from (nI_eq (by omega) (by decide)).mp (show nI sg = nI 5 from Classical.not_not.mp hc133)) (by show ¬ zCont σ p9 sg 5 p9 = 0; rw [← hag 5 (by decide)]; exact hc142)]; exact hag) h23 (by rw [zTake_5 (show sg = 5 from (nI_eq (by omega) (by decide)).mp (show nI sg = nI 5 from Classical.not_not.mp hc133)) (by show ¬ zCont σ p9 sg 5 p9 = 0; rw [← hag 5 (by decide)]; exact hc142)]; exact hring)
              | exact k186 _ _ _ hR (by rw [zTake_p (show ¬ sg = 2 from fun z => hc118 (by rw [z]; decide)) (show ¬ sg = 5 from fun z => hc133 (by rw [z]; decide)) (Or.inl (hA.symm.trans hc156))]; show zAg _ (zu (zCont σ p9 sg) 11 p9 (zCont σ p9 sg 11 p9 ||| zSh sg)); rw [← hag 11 (by decide)]; exact zAg_zu hag) h23 (by rw [zTake_p (show ¬ sg = 2 from fun z => hc118 (by rw [z]; decide)) (show ¬ sg = 5 from fun z => hc133 (by rw [z]; decide)) (Or.inl (hA.symm.trans hc156))]; exact hring.ag rfl rfl rfl)
              | exact k186 _ _ _ hR (by rw [zTake_p (show ¬ sg = 2 from fun z => hc118 (by rw [z]; decide)) (show ¬ sg = 5 from fun z => hc133 (by rw [z]; decide)) (Or.inr ⟨hA.symm.trans (Classical.not_not.mp hc160), fun z => hc165 (by rw [z]; decide), fun z => hc171 (by rw [z]; decide)⟩)]; show zAg _ (zu (zCont σ p9 sg) 11 p9 (zCont σ p9 sg 11 p9 ||| zSh sg)); rw [← hag 11 (by decide)]; exact zAg_zu hag) h23 (by rw [zTake_p (show ¬ sg = 2 from fun z => hc118 (by rw [z]; decide)) (show ¬ sg = 5 from fun z => hc133 (by rw [z]; decide)) (Or.inr ⟨hA.symm.trans (Classical.not_not.mp hc160), fun z => hc165 (by rw [z]; decide), fun z => hc171 (by rw [z]; decide)⟩)]; exact hring.ag rfl rfl rfl)
              | exact k186 r1 _ _ hR (by rw [zTake_n (show ¬ sg = 2 from fun z => hc118 (by rw [z]; decide)) (show ¬ sg = 5 from fun z => hc133 (by rw [z]; decide)) (fun z => z.elim (fun w => hc156 (hA.trans w)) (fun w => hc160 (hA.trans w.1)))]; exact hag) h23 (by rw [zTake_n (show ¬ sg = 2 from fun z => hc118 (by rw [z]; decide)) (show ¬ sg = 5 from fun z => hc133 (by rw [z]; decide)) (fun z => z.elim (fun w => hc156 (hA.trans w)) (fun w => hc160 (hA.trans w.1)))]; exact hring)
              | exact k186 r1 _ _ hR (by rw [zTake_n (show ¬ sg = 2 from fun z => hc118 (by rw [z]; decide)) (show ¬ sg = 5 from fun z => hc133 (by rw [z]; decide)) (fun z => z.elim (fun w => hc156 (hA.trans w)) (fun w => w.2.1 ((nI_eq (by omega) (by decide)).mp (show nI sg = nI 4 from hc165))))]; exact hag) h23 (by rw [zTake_n (show ¬ sg = 2 from fun z => hc118 (by rw [z]; decide)) (show ¬ sg = 5 from fun z => hc133 (by rw [z]; decide)) (fun z => z.elim (fun w => hc156 (hA.trans w)) (fun w => w.2.1 ((nI_eq (by omega) (by decide)).mp (show nI sg = nI 4 from hc165))))]; exact hring)
              | exact k186 r1 _ _ hR (by rw [zTake_n (show ¬ sg = 2 from fun z => hc118 (by rw [z]; decide)) (show ¬ sg = 5 from fun z => hc133 (by rw [z]; decide)) (fun z => z.elim (fun w => hc156 (hA.trans w)) (fun w => w.2.2 ((nI_eq (by omega) (by decide)).mp (show nI sg = nI 7 from hc171))))]; exact hag) h23 (by rw [zTake_n (show ¬ sg = 2 from fun z => hc118 (by rw [z]; decide)) (show ¬ sg = 5 from fun z => hc133 (by rw [z]; decide)) (fun z => z.elim (fun w => hc156 (hA.trans w)) (fun w => w.2.2 ((nI_eq (by omega) (by decide)).mp (show nI sg = nI 7 from hc171))))]; exact hring)
      · refine zz_aload_n (pc := 121) C dX3_comes_121 rfl ?_
        refine zz_iload_n (pc := 122) C dX3_comes_122 rfl ?_
        refine zz_iconst (pc := 123) C (v := 1) (by decide) dX3_comes_123 ?_
        refine zz_iconst (pc := 124) C (v := 2) (by decide) dX3_comes_124 ?_
        refine zz_callV (pc := 125) C (c_mterm l D hR hag (how := 1) (w := 2) (hL.ag (zCont_off (by decide)) (zCont_off (by decide)) (zCont_off (by decide))) hring hroom) gX3_comes_X3_terminates rfl 3 (by decide +kernel) ⟨Nat.le_of_ble_eq_true rfl, Nat.le_of_ble_eq_true rfl⟩ hR.2.1 (ci := 3) rfl rfl rfl dX3_comes_125 rfl (Nat.le_of_ble_eq_true rfl) rfl ⟨Nat.le_of_ble_eq_true rfl, Nat.le_of_ble_eq_true rfl⟩ ?_
        rintro v G9 ⟨rfl, r2, hR2, hag2, h232, hring2⟩
        refine zz_goto (pc := 128) C (tgt := 186) dX3_comes_128 (by decide) ?_
        first
          | exact k186 r2 _ _ hR2 (by rw [zTake_2 (show sg = 2 from (nI_eq (by omega) (by decide)).mp (show nI sg = nI 2 from Classical.not_not.mp hc118))]; exact hag2) (h232.trans h23) (by rw [zTake_2 (show sg = 2 from (nI_eq (by omega) (by decide)).mp (show nI sg = nI 2 from Classical.not_not.mp hc118))]; exact hring2)
          | exact k186 r2 _ _ hR2 (by rw [zTake_5s (show sg = 5 from (nI_eq (by omega) (by decide)).mp (show nI sg = nI 5 from Classical.not_not.mp hc133)) (by show zCont σ p9 sg 5 p9 = 0; rw [← hag 5 (by decide)]; exact Classical.not_not.mp hc142)]; exact hag2) (h232.trans h23) (by rw [zTake_5s (show sg = 5 from (nI_eq (by omega) (by decide)).mp (show nI sg = nI 5 from Classical.not_not.mp hc133)) (by show zCont σ p9 sg 5 p9 = 0; rw [← hag 5 (by decide)]; exact Classical.not_not.mp hc142)]; exact hring2)
          | exact k186 r1 _ _ hR (by rw [zTake_5 (show sg = 5 from (nI_eq (by omega) (by decide)).mp (show nI sg = nI 5 from Classical.not_not.mp hc133)) (by show ¬ zCont σ p9 sg 5 p9 = 0; rw [← hag 5 (by decide)]; exact hc142)]; exact hag) h23 (by rw [zTake_5 (show sg = 5 from (nI_eq (by omega) (by decide)).mp (show nI sg = nI 5 from Classical.not_not.mp hc133)) (by show ¬ zCont σ p9 sg 5 p9 = 0; rw [← hag 5 (by decide)]; exact hc142)]; exact hring)
          | exact k186 _ _ _ hR (by rw [zTake_p (show ¬ sg = 2 from fun z => hc118 (by rw [z]; decide)) (show ¬ sg = 5 from fun z => hc133 (by rw [z]; decide)) (Or.inl (hA.symm.trans hc156))]; show zAg _ (zu (zCont σ p9 sg) 11 p9 (zCont σ p9 sg 11 p9 ||| zSh sg)); rw [← hag 11 (by decide)]; exact zAg_zu hag) h23 (by rw [zTake_p (show ¬ sg = 2 from fun z => hc118 (by rw [z]; decide)) (show ¬ sg = 5 from fun z => hc133 (by rw [z]; decide)) (Or.inl (hA.symm.trans hc156))]; exact hring.ag rfl rfl rfl)
          | exact k186 _ _ _ hR (by rw [zTake_p (show ¬ sg = 2 from fun z => hc118 (by rw [z]; decide)) (show ¬ sg = 5 from fun z => hc133 (by rw [z]; decide)) (Or.inr ⟨hA.symm.trans (Classical.not_not.mp hc160), fun z => hc165 (by rw [z]; decide), fun z => hc171 (by rw [z]; decide)⟩)]; show zAg _ (zu (zCont σ p9 sg) 11 p9 (zCont σ p9 sg 11 p9 ||| zSh sg)); rw [← hag 11 (by decide)]; exact zAg_zu hag) h23 (by rw [zTake_p (show ¬ sg = 2 from fun z => hc118 (by rw [z]; decide)) (show ¬ sg = 5 from fun z => hc133 (by rw [z]; decide)) (Or.inr ⟨hA.symm.trans (Classical.not_not.mp hc160), fun z => hc165 (by rw [z]; decide), fun z => hc171 (by rw [z]; decide)⟩)]; exact hring.ag rfl rfl rfl)
          | exact k186 r1 _ _ hR (by rw [zTake_n (show ¬ sg = 2 from fun z => hc118 (by rw [z]; decide)) (show ¬ sg = 5 from fun z => hc133 (by rw [z]; decide)) (fun z => z.elim (fun w => hc156 (hA.trans w)) (fun w => hc160 (hA.trans w.1)))]; exact hag) h23 (by rw [zTake_n (show ¬ sg = 2 from fun z => hc118 (by rw [z]; decide)) (show ¬ sg = 5 from fun z => hc133 (by rw [z]; decide)) (fun z => z.elim (fun w => hc156 (hA.trans w)) (fun w => hc160 (hA.trans w.1)))]; exact hring)
          | exact k186 r1 _ _ hR (by rw [zTake_n (show ¬ sg = 2 from fun z => hc118 (by rw [z]; decide)) (show ¬ sg = 5 from fun z => hc133 (by rw [z]; decide)) (fun z => z.elim (fun w => hc156 (hA.trans w)) (fun w => w.2.1 ((nI_eq (by omega) (by decide)).mp (show nI sg = nI 4 from hc165))))]; exact hag) h23 (by rw [zTake_n (show ¬ sg = 2 from fun z => hc118 (by rw [z]; decide)) (show ¬ sg = 5 from fun z => hc133 (by rw [z]; decide)) (fun z => z.elim (fun w => hc156 (hA.trans w)) (fun w => w.2.1 ((nI_eq (by omega) (by decide)).mp (show nI sg = nI 4 from hc165))))]; exact hring)
          | exact k186 r1 _ _ hR (by rw [zTake_n (show ¬ sg = 2 from fun z => hc118 (by rw [z]; decide)) (show ¬ sg = 5 from fun z => hc133 (by rw [z]; decide)) (fun z => z.elim (fun w => hc156 (hA.trans w)) (fun w => w.2.2 ((nI_eq (by omega) (by decide)).mp (show nI sg = nI 7 from hc171))))]; exact hag) h23 (by rw [zTake_n (show ¬ sg = 2 from fun z => hc118 (by rw [z]; decide)) (show ¬ sg = 5 from fun z => hc133 (by rw [z]; decide)) (fun z => z.elim (fun w => hc156 (hA.trans w)) (fun w => w.2.2 ((nI_eq (by omega) (by decide)).mp (show nI sg = nI 7 from hc171))))]; exact hring)
    have k77 : ∀ (r1 τ : zS) (G1 : zG), zModR B y ma r1 G1 → zAg r1 τ → r1 23 = r 23 → zRing r1 q → (sg = 5 ∨ sg = 6 → zCont σ p9 sg = zu τ 11 p9 (zClr (τ 11 p9) 7)) → (¬ (sg = 5 ∨ sg = 6) → zCont σ p9 sg = τ) → zV p l e ({ frames := 5, cells := 0, slots := 0, locals := 118 } : Room) s m args below meth c D (zA G s.heap.size) 0 0 (zZ below D G (fun v G9 => v = none ∧ ∃ r2, zModR B y ma r2 G9 ∧ zAg r2 (zComes (σ, q) p9 sg).1 ∧ r2 23 = r 23 ∧ zRing r2 (zComes (σ, q) p9 sg).2) args s ({ frames := 5, cells := 0, slots := 0, locals := 118 } : Room)) G1 77 [some (.ref y), some (.int (nI p9)), some (.int (nI sg)), none] [] := by
      intro r1 τ G1 hR hag h23 hring hA2 hA3
      refine zz_aload_n (pc := 77) C dX3_comes_77 rfl ?_
      refine zz_get (pc := 78) C in_X3_comes_X3 (ci := 3) rfl 11 (by decide) (fl_X3_comes_44) rfl dX3_comes_78 hR.2.1 rfl ?_
      refine zz_iload_n (pc := 81) C dX3_comes_81 rfl ?_
      refine zz_dup2 (pc := 82) C dX3_comes_82 rfl rfl ?_
      refine zz_mld (pc := 83) C hR 11 (by decide) rfl dX3_comes_83 rfl (by show _ < 41; omega) ?_
      refine zz_iload_n (pc := 84) C dX3_comes_84 rfl ?_
      refine zz_iconst (pc := 85) C (v := 5) (by decide) dX3_comes_85 ?_
      refine zz_icmp_eq (pc := 86) C (tgt := 95) dX3_comes_86 (by decide) (fun hc86 => ?_) (fun hc86 => ?_)
      · refine zz_sipush (pc := 95) C (v := -129) (by decide) dX3_comes_95 ?_
        refine zz_goto (pc := 98) C (tgt := 102) dX3_comes_98 (by decide) ?_
        refine zz_iand (pc := 102) C dX3_comes_102 ?_
        refine zz_mst (pc := 103) C hR 11 (by decide) rfl dX3_comes_103 rfl (by show _ < 41; omega) (fun G hR => ?_)
        first
          | (have h56 : sg = 5 ∨ sg = 6 := by
               first
                 | exact Or.inl ((nI_eq (by omega) (by decide)).mp (show nI sg = nI 5 from hc86))
                 | exact Or.inr ((nI_eq (by omega) (by decide)).mp (show nI sg = nI 6 from Classical.not_not.mp hc92))
             exact k104 _ _ hR (by rw [hA2 h56, show (-129 : Int32) = zSh 7 ^^^ (-1) from (by decide), hag 11 (by decide)]; exact zAg_zu hag) h23 (hring.ag rfl rfl rfl))
          | (have h56 : ¬ (sg = 5 ∨ sg = 6) := fun z => z.elim (fun z => hc86 (by rw [z]; decide)) (fun z => hc92 (by rw [z]; decide))
             refine k104 _ _ hR ?_ h23 (hring.ag rfl rfl rfl)
             rw [hA3 h56, zAndm1, zu_id]
             exact hag)
      · refine zz_iload_n (pc := 89) C dX3_comes_89 rfl ?_
        refine zz_bipush (pc := 90) C (v := 6) (by decide) dX3_comes_90 ?_
        refine zz_icmp_ne (pc := 92) C (tgt := 101) dX3_comes_92 (by decide) (fun hc92 => ?_) (fun hc92 => ?_)
        · refine zz_iconst (pc := 101) C (v := -1) (by decide) dX3_comes_101 ?_
          refine zz_iand (pc := 102) C dX3_comes_102 ?_
          refine zz_mst (pc := 103) C hR 11 (by decide) rfl dX3_comes_103 rfl (by show _ < 41; omega) (fun G hR => ?_)
          first
            | (have h56 : sg = 5 ∨ sg = 6 := by
                 first
                   | exact Or.inl ((nI_eq (by omega) (by decide)).mp (show nI sg = nI 5 from hc86))
                   | exact Or.inr ((nI_eq (by omega) (by decide)).mp (show nI sg = nI 6 from Classical.not_not.mp hc92))
               exact k104 _ _ hR (by rw [hA2 h56, show (-129 : Int32) = zSh 7 ^^^ (-1) from (by decide), hag 11 (by decide)]; exact zAg_zu hag) h23 (hring.ag rfl rfl rfl))
            | (have h56 : ¬ (sg = 5 ∨ sg = 6) := fun z => z.elim (fun z => hc86 (by rw [z]; decide)) (fun z => hc92 (by rw [z]; decide))
               refine k104 _ _ hR ?_ h23 (hring.ag rfl rfl rfl)
               rw [hA3 h56, zAndm1, zu_id]
               exact hag)
        · refine zz_sipush (pc := 95) C (v := -129) (by decide) dX3_comes_95 ?_
          refine zz_goto (pc := 98) C (tgt := 102) dX3_comes_98 (by decide) ?_
          refine zz_iand (pc := 102) C dX3_comes_102 ?_
          refine zz_mst (pc := 103) C hR 11 (by decide) rfl dX3_comes_103 rfl (by show _ < 41; omega) (fun G hR => ?_)
          first
            | (have h56 : sg = 5 ∨ sg = 6 := by
                 first
                   | exact Or.inl ((nI_eq (by omega) (by decide)).mp (show nI sg = nI 5 from hc86))
                   | exact Or.inr ((nI_eq (by omega) (by decide)).mp (show nI sg = nI 6 from Classical.not_not.mp hc92))
               exact k104 _ _ hR (by rw [hA2 h56, show (-129 : Int32) = zSh 7 ^^^ (-1) from (by decide), hag 11 (by decide)]; exact zAg_zu hag) h23 (hring.ag rfl rfl rfl))
            | (have h56 : ¬ (sg = 5 ∨ sg = 6) := fun z => z.elim (fun z => hc86 (by rw [z]; decide)) (fun z => hc92 (by rw [z]; decide))
               refine k104 _ _ hR ?_ h23 (hring.ag rfl rfl rfl)
               rw [hA3 h56, zAndm1, zu_id]
               exact hag)
    have k69 : ∀ (x : Int32) (G1 : zG), sg = 7 → x = zb (σ 17 p9 ≠ 0 ∧ σ 5 p9 = 0) → zModR B y ma (zu r 11 p9 (r 11 p9 &&& -65)) G1 → zV p l e ({ frames := 5, cells := 0, slots := 0, locals := 118 } : Room) s m args below meth c D (zA G s.heap.size) 0 0 (zZ below D G (fun v G9 => v = none ∧ ∃ r2, zModR B y ma r2 G9 ∧ zAg r2 (zComes (σ, q) p9 sg).1 ∧ r2 23 = r 23 ∧ zRing r2 (zComes (σ, q) p9 sg).2) args s ({ frames := 5, cells := 0, slots := 0, locals := 118 } : Room)) G1 69 [some (.ref y), some (.int (nI p9)), some (.int (nI sg)), none] [.int x, .int (nI p9), .ref (ma 17)] := by
      intro x G1 h7 hx hR
      subst hx
      have hag9 : zAg (zu r 11 p9 (r 11 p9 &&& -65)) (zu σ 11 p9 (zClr (σ 11 p9) 6)) := by
        rw [show (-65 : Int32) = zSh 6 ^^^ (-1) from (by decide), hag 11 (by decide)]; exact zAg_zu hag
      refine zz_mstz (pc := 69) C hR 17 (by decide) rfl dX3_comes_69 rfl (by show _ < 41; omega) zb_vp (fun G hR => ?_)
      refine zz_aload_n (pc := 70) C dX3_comes_70 rfl ?_
      refine zz_get (pc := 71) C in_X3_comes_X3 (ci := 3) rfl 5 (by decide) (fl_X3_comes_26) rfl dX3_comes_71 hR.2.1 rfl ?_
      refine zz_iload_n (pc := 74) C dX3_comes_74 rfl ?_
      refine zz_iconst (pc := 75) C (v := 0) (by decide) dX3_comes_75 ?_
      refine zz_mstz (pc := 76) C hR 5 (by decide) rfl dX3_comes_76 rfl (by show _ < 41; omega) (by first | rfl | exact zb_vp) (fun G hR => ?_)
      exact k77 _ (zu (zu (zu σ 11 p9 (zClr (σ 11 p9) 6)) 17 p9 (zb (σ 17 p9 ≠ 0 ∧ σ 5 p9 = 0))) 5 p9 0) _ hR (zAg_zu (zAg_zu hag9)) rfl (hring.ag rfl rfl rfl) (fun z => absurd z (by omega)) (fun _ => zCont_7 h7)
    have k24 : zV p l e ({ frames := 5, cells := 0, slots := 0, locals := 118 } : Room) s m args below meth c D (zA G s.heap.size) 0 0 (zZ below D G (fun v G9 => v = none ∧ ∃ r2, zModR B y ma r2 G9 ∧ zAg r2 (zComes (σ, q) p9 sg).1 ∧ r2 23 = r 23 ∧ zRing r2 (zComes (σ, q) p9 sg).2) args s ({ frames := 5, cells := 0, slots := 0, locals := 118 } : Room)) G 24 [some (.ref y), some (.int (nI p9)), some (.int (nI sg)), none] [] := by
      refine zz_iload_n (pc := 24) C dX3_comes_24 rfl ?_
      refine zz_bipush (pc := 25) C (v := 7) (by decide) dX3_comes_25 ?_
      refine zz_icmp_ne (pc := 27) C (tgt := 77) dX3_comes_27 (by decide) (fun hc27 => ?_) (fun hc27 => ?_)
      · exact k77 r σ _ hR hag rfl hring (fun z => zCont_56 (fun w => hc27 (by rw [w]; decide)) z) (fun z => zCont_o (fun w => hc27 (by rw [w]; decide)) z)
      · refine zz_aload_n (pc := 30) C dX3_comes_30 rfl ?_
        refine zz_get (pc := 31) C in_X3_comes_X3 (ci := 3) rfl 11 (by decide) (fl_X3_comes_44) rfl dX3_comes_31 hR.2.1 rfl ?_
        refine zz_iload_n (pc := 34) C dX3_comes_34 rfl ?_
        refine zz_dup2 (pc := 35) C dX3_comes_35 rfl rfl ?_
        refine zz_mld (pc := 36) C hR 11 (by decide) rfl dX3_comes_36 rfl (by show _ < 41; omega) ?_
        refine zz_bipush (pc := 37) C (v := -65) (by decide) dX3_comes_37 ?_
        refine zz_iand (pc := 39) C dX3_comes_39 ?_
        refine zz_mst (pc := 40) C hR 11 (by decide) rfl dX3_comes_40 rfl (by show _ < 41; omega) (fun G hR => ?_)
        have h7 : sg = 7 := (nI_eq (by omega) (by decide)).mp (show nI sg = nI 7 from Classical.not_not.mp hc27)
        refine zz_aload_n (pc := 41) C dX3_comes_41 rfl ?_
        refine zz_get (pc := 42) C in_X3_comes_X3 (ci := 3) rfl 17 (by decide) (fl_X3_comes_62) rfl dX3_comes_42 hR.2.1 rfl ?_
        refine zz_iload_n (pc := 45) C dX3_comes_45 rfl ?_
        refine zz_aload_n (pc := 46) C dX3_comes_46 rfl ?_
        refine zz_get (pc := 47) C in_X3_comes_X3 (ci := 3) rfl 17 (by decide) (fl_X3_comes_62) rfl dX3_comes_47 hR.2.1 rfl ?_
        refine zz_iload_n (pc := 50) C dX3_comes_50 rfl ?_
        refine zz_mldz (pc := 51) C hR 17 (by decide) rfl dX3_comes_51 rfl (by show _ < 41; omega) ?_
        refine zz_if_eq (pc := 52) C (tgt := 68) dX3_comes_52 (by decide) (fun hc52 => ?_) (fun hc52 => ?_)
        · refine zz_iconst (pc := 68) C (v := 0) (by decide) dX3_comes_68 ?_
          first
            | exact k69 _ _ h7 (z0b (fun q9 => q9.1 (by rw [← hag 17 (by decide)]; exact hc52))) hR
            | exact k69 _ _ h7 (z0b (fun q9 => hc61 (by show r 5 p9 = 0; rw [hag 5 (by decide)]; exact q9.2))) hR
            | exact k69 _ _ h7 (z1b ⟨fun z => hc52 (by show r 17 p9 = 0; rw [hag 17 (by decide)]; exact z), by rw [← hag 5 (by decide)]; exact Classical.not_not.mp hc61⟩) hR
        · refine zz_aload_n (pc := 55) C dX3_comes_55 rfl ?_
          refine zz_get (pc := 56) C in_X3_comes_X3 (ci := 3) rfl 5 (by decide) (fl_X3_comes_26) rfl dX3_comes_56 hR.2.1 rfl ?_
          refine zz_iload_n (pc := 59) C dX3_comes_59 rfl ?_
          refine zz_mldz (pc := 60) C hR 5 (by decide) rfl dX3_comes_60 rfl (by show _ < 41; omega) ?_
          refine zz_if_ne (pc := 61) C (tgt := 68) dX3_comes_61 (by decide) (fun hc61 => ?_) (fun hc61 => ?_)
          · refine zz_iconst (pc := 68) C (v := 0) (by decide) dX3_comes_68 ?_
            first
              | exact k69 _ _ h7 (z0b (fun q9 => q9.1 (by rw [← hag 17 (by decide)]; exact hc52))) hR
              | exact k69 _ _ h7 (z0b (fun q9 => hc61 (by show r 5 p9 = 0; rw [hag 5 (by decide)]; exact q9.2))) hR
              | exact k69 _ _ h7 (z1b ⟨fun z => hc52 (by show r 17 p9 = 0; rw [hag 17 (by decide)]; exact z), by rw [← hag 5 (by decide)]; exact Classical.not_not.mp hc61⟩) hR
          · refine zz_iconst (pc := 64) C (v := 1) (by decide) dX3_comes_64 ?_
            refine zz_goto (pc := 65) C (tgt := 69) dX3_comes_65 (by decide) ?_
            first
              | exact k69 _ _ h7 (z0b (fun q9 => q9.1 (by rw [← hag 17 (by decide)]; exact hc52))) hR
              | exact k69 _ _ h7 (z0b (fun q9 => hc61 (by show r 5 p9 = 0; rw [hag 5 (by decide)]; exact q9.2))) hR
              | exact k69 _ _ h7 (z1b ⟨fun z => hc52 (by show r 17 p9 = 0; rw [hag 17 (by decide)]; exact z), by rw [← hag 5 (by decide)]; exact Classical.not_not.mp hc61⟩) hR
    refine zz_aload_n (pc := 0) C dX3_comes_0 rfl ?_
    refine zz_get (pc := 1) C in_X3_comes_X3 (ci := 3) rfl 0 (by decide) (fl_X3_comes_7) rfl dX3_comes_1 hR.2.1 rfl ?_
    refine zz_iload_n (pc := 4) C dX3_comes_4 rfl ?_
    refine zz_mldz (pc := 5) C hR 0 (by decide) rfl dX3_comes_5 rfl (by show _ < 41; omega) ?_
    refine zz_if_eq (pc := 6) C (tgt := 23) dX3_comes_6 (by decide) (fun hc6 => ?_) (fun hc6 => ?_)
    · exact absurd (Or.inl (by rw [← hag 0 (by decide)]; exact hc6)) hno
    · refine zz_aload_n (pc := 9) C dX3_comes_9 rfl ?_
      refine zz_get (pc := 10) C in_X3_comes_X3 (ci := 3) rfl 4 (by decide) (fl_X3_comes_23) rfl dX3_comes_10 hR.2.1 rfl ?_
      refine zz_iload_n (pc := 13) C dX3_comes_13 rfl ?_
      refine zz_mldz (pc := 14) C hR 4 (by decide) rfl dX3_comes_14 rfl (by show _ < 41; omega) ?_
      refine zz_if_ne (pc := 15) C (tgt := 23) dX3_comes_15 (by decide) (fun hc15 => ?_) (fun hc15 => ?_)
      · exact absurd (Or.inr (Or.inl (by rw [← hag 4 (by decide)]; exact hc15))) hno
      · refine zz_iload_n (pc := 18) C dX3_comes_18 rfl ?_
        refine zz_iconst (pc := 19) C (v := 1) (by decide) dX3_comes_19 ?_
        refine zz_icmp_ne (pc := 20) C (tgt := 24) dX3_comes_20 (by decide) (fun hc20 => ?_) (fun hc20 => ?_)
        · exact k24
        · exact absurd (Or.inr (Or.inr ((nI_eq (by omega) (by decide)).mp (show nI p9 = nI 1 from Classical.not_not.mp hc20)))) hno
