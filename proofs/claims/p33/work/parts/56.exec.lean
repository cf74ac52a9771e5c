/-! exec -/
def zUs (x y : Int32) : Int32 := (x.toUInt32 >>> (y.toUInt32 &&& Int32.toUInt32 31)).toInt32
def zPp1 (x : Int32) : Int32 := x - (zUs x 1 &&& 1431655765)
def zPp2 (x : Int32) : Int32 := (x &&& 858993459) + (zUs x 2 &&& 858993459)
def zPp3 (x : Int32) : Int32 := (x + zUs x 4) &&& 252645135
def zPp4 (x : Int32) : Int32 := x + zUs x 8
def zPp5 (x : Int32) : Int32 := x + zUs x 16
def zPop (x : Int32) : Int32 := zPp5 (zPp4 (zPp3 (zPp2 (zPp1 x)))) &&& 63
set_option maxHeartbeats 4000000 in
set_option maxRecDepth 100000 in
theorem c_J6_bitCount_0f7a4 (l : Launch) (D : va_G) {G : zG} {x9 : Int32} : zMet D l yJ6_bitCount_0f7a4 wsJ6_bitCount_0f7a4 ({ frames := 0, cells := 0, slots := 0, locals := 0 } : Room) [.int x9] G (fun v G9 => v = some (.int (zPop x9)) ∧ G9 = G) := by
  refine zMet_of (cc := cJ6_bitCount_0f7a4) (maxL := 1) (ret := (some .int)) (by decide) rfl (Nat.le_of_ble_eq_true rfl) ?_
  intro p e s m args below meth c C hmn
  refine zz_iload_n (pc := 0) C dJ6_bitCount_0f7a4_0 rfl ?_
  refine zz_iload_n (pc := 1) C dJ6_bitCount_0f7a4_1 rfl ?_
  refine zz_iconst (pc := 2) C (v := 1) (by decide) dJ6_bitCount_0f7a4_2 ?_
  refine zz_iushr (pc := 3) C dJ6_bitCount_0f7a4_3 ?_
  refine zz_ldcw (pc := 4) C (v := 1431655765) (by decide +kernel) dJ6_bitCount_0f7a4_4 ?_
  refine zz_iand (pc := 7) C dJ6_bitCount_0f7a4_7 ?_
  refine zz_isub (pc := 8) C dJ6_bitCount_0f7a4_8 ?_
  refine zz_istore_n (pc := 9) C dJ6_bitCount_0f7a4_9 (Nat.le_of_ble_eq_true rfl) ?_
  refine zV.less (L' := [some (.int (zPp1 x9))]) ⟨rfl, trivial⟩ ?_
  refine zz_iload_n (pc := 10) C dJ6_bitCount_0f7a4_10 rfl ?_
  refine zz_ldcw (pc := 11) C (v := 858993459) (by decide +kernel) dJ6_bitCount_0f7a4_11 ?_
  refine zz_iand (pc := 14) C dJ6_bitCount_0f7a4_14 ?_
  refine zz_iload_n (pc := 15) C dJ6_bitCount_0f7a4_15 rfl ?_
  refine zz_iconst (pc := 16) C (v := 2) (by decide) dJ6_bitCount_0f7a4_16 ?_
  refine zz_iushr (pc := 17) C dJ6_bitCount_0f7a4_17 ?_
  refine zz_ldcw (pc := 18) C (v := 858993459) (by decide +kernel) dJ6_bitCount_0f7a4_18 ?_
  refine zz_iand (pc := 21) C dJ6_bitCount_0f7a4_21 ?_
  refine zz_iadd (pc := 22) C dJ6_bitCount_0f7a4_22 ?_
  refine zz_istore_n (pc := 23) C dJ6_bitCount_0f7a4_23 (Nat.le_of_ble_eq_true rfl) ?_
  refine zV.less (L' := [some (.int (zPp2 (zPp1 x9)))]) ⟨rfl, trivial⟩ ?_
  refine zz_iload_n (pc := 24) C dJ6_bitCount_0f7a4_24 rfl ?_
  refine zz_iload_n (pc := 25) C dJ6_bitCount_0f7a4_25 rfl ?_
  refine zz_iconst (pc := 26) C (v := 4) (by decide) dJ6_bitCount_0f7a4_26 ?_
  refine zz_iushr (pc := 27) C dJ6_bitCount_0f7a4_27 ?_
  refine zz_iadd (pc := 28) C dJ6_bitCount_0f7a4_28 ?_
  refine zz_ldcw (pc := 29) C (v := 252645135) (by decide +kernel) dJ6_bitCount_0f7a4_29 ?_
  refine zz_iand (pc := 32) C dJ6_bitCount_0f7a4_32 ?_
  refine zz_istore_n (pc := 33) C dJ6_bitCount_0f7a4_33 (Nat.le_of_ble_eq_true rfl) ?_
  refine zV.less (L' := [some (.int (zPp3 (zPp2 (zPp1 x9))))]) ⟨rfl, trivial⟩ ?_
  refine zz_iload_n (pc := 34) C dJ6_bitCount_0f7a4_34 rfl ?_
  refine zz_iload_n (pc := 35) C dJ6_bitCount_0f7a4_35 rfl ?_
  refine zz_bipush (pc := 36) C (v := 8) (by decide) dJ6_bitCount_0f7a4_36 ?_
  refine zz_iushr (pc := 38) C dJ6_bitCount_0f7a4_38 ?_
  refine zz_iadd (pc := 39) C dJ6_bitCount_0f7a4_39 ?_
  refine zz_istore_n (pc := 40) C dJ6_bitCount_0f7a4_40 (Nat.le_of_ble_eq_true rfl) ?_
  refine zV.less (L' := [some (.int (zPp4 (zPp3 (zPp2 (zPp1 x9)))))]) ⟨rfl, trivial⟩ ?_
  refine zz_iload_n (pc := 41) C dJ6_bitCount_0f7a4_41 rfl ?_
  refine zz_iload_n (pc := 42) C dJ6_bitCount_0f7a4_42 rfl ?_
  refine zz_bipush (pc := 43) C (v := 16) (by decide) dJ6_bitCount_0f7a4_43 ?_
  refine zz_iushr (pc := 45) C dJ6_bitCount_0f7a4_45 ?_
  refine zz_iadd (pc := 46) C dJ6_bitCount_0f7a4_46 ?_
  refine zz_istore_n (pc := 47) C dJ6_bitCount_0f7a4_47 (Nat.le_of_ble_eq_true rfl) ?_
  refine zV.less (L' := [some (.int (zPp5 (zPp4 (zPp3 (zPp2 (zPp1 x9))))))]) ⟨rfl, trivial⟩ ?_
  refine zz_iload_n (pc := 48) C dJ6_bitCount_0f7a4_48 rfl ?_
  refine zz_bipush (pc := 49) C (v := 63) (by decide) dJ6_bitCount_0f7a4_49 ?_
  refine zz_iand (pc := 51) C dJ6_bitCount_0f7a4_51 ?_
  exact zz_ireturn (pc := 52) C dJ6_bitCount_0f7a4_52 rfl (Nat.le_refl _) (Nat.le_refl _) ⟨rfl, rfl⟩
def zDrpF (f : Nat → Int32) : Nat → Int32 := upd (upd f 13 0) 15 (f 15 &&& ((f 13 &&& 144) ^^^ (-1)))
theorem fl_X1_dropCatches_46 : Cond.fieldLink RX1 46 "Signalpost$Proc" "catches" "I" ∈ wsX1_dropCatches := by decide +kernel
theorem fl_X1_dropCatches_70 : Cond.fieldLink RX1 70 "Signalpost$Proc" "pending" "I" ∈ wsX1_dropCatches := by decide +kernel
theorem in_X1_dropCatches_X1 : ∀ w ∈ u_ws RX1 TX1 20, w ∈ wsX1_dropCatches := by decide +kernel
set_option maxHeartbeats 4000000 in
set_option maxRecDepth 100000 in
theorem c_X1_dropCatches (l : Launch) (D : va_G) {G : zG} {a t : Nat} {par : Value} {f : Nat → Int32} (hx : G a = some (t, .inr (1, zPr par f))) : zMet D l yX1_dropCatches wsX1_dropCatches ({ frames := 1, cells := 0, slots := 0, locals := 20 } : Room) [.ref a] G (fun v G9 => v = some (.int (zPop (f 13))) ∧ G9 = zU G a (t, .inr (1, zPr par (zDrpF f)))) := by
  refine zMet_of (cc := cX1_dropCatches) (maxL := 2) (ret := (some .int)) (by decide) rfl (Nat.le_of_ble_eq_true rfl) ?_
  intro p e s m args below meth c C hmn
  refine zz_aload_n (pc := 0) C dX1_dropCatches_0 rfl ?_
  refine zz_get (pc := 1) C in_X1_dropCatches_X1 (ci := 1) rfl 13 (by decide) (fl_X1_dropCatches_46) rfl dX1_dropCatches_1 hx rfl ?_
  refine zz_istore_n (pc := 4) C dX1_dropCatches_4 (Nat.le_of_ble_eq_true rfl) ?_
  refine zz_aload_n (pc := 5) C dX1_dropCatches_5 rfl ?_
  refine zz_iconst (pc := 6) C (v := 0) (by decide) dX1_dropCatches_6 ?_
  refine zV.eqG (zU_id hx).symm ?_
  refine zz_pput (pc := 7) C in_X1_dropCatches_X1 13 (by decide) (by decide) (by decide) fl_X1_dropCatches_46 dX1_dropCatches_7 rfl rfl ?_
  refine zz_aload_n (pc := 10) C dX1_dropCatches_10 rfl ?_
  refine zz_dup (pc := 11) C dX1_dropCatches_11 rfl ?_
  refine zz_get (pc := 12) C in_X1_dropCatches_X1 (ci := 1) rfl 15 (by decide) (fl_X1_dropCatches_70) rfl dX1_dropCatches_12 zU_self rfl ?_
  refine zz_iload_n (pc := 15) C dX1_dropCatches_15 rfl ?_
  refine zz_sipush (pc := 16) C (v := 144) (by decide) dX1_dropCatches_16 ?_
  refine zz_iand (pc := 19) C dX1_dropCatches_19 ?_
  refine zz_iconst (pc := 20) C (v := -1) (by decide) dX1_dropCatches_20 ?_
  refine zz_ixor (pc := 21) C dX1_dropCatches_21 ?_
  refine zz_iand (pc := 22) C dX1_dropCatches_22 ?_
  refine zz_pput (pc := 23) C in_X1_dropCatches_X1 15 (by decide) (by decide) (by decide) fl_X1_dropCatches_70 dX1_dropCatches_23 rfl rfl ?_
  refine zz_iload_n (pc := 26) C dX1_dropCatches_26 rfl ?_
  refine zz_callS (pc := 27) C (c_J6_bitCount_0f7a4 l D (x9 := f 13)) gX1_dropCatches_J6_bitCount_0f7a4 rfl 1 (by decide +kernel) ⟨Nat.le_of_ble_eq_true rfl, Nat.le_of_ble_eq_true rfl⟩ rfl dX1_dropCatches_27 rfl (Nat.le_of_ble_eq_true rfl) rfl ⟨Nat.le_of_ble_eq_true rfl, Nat.le_of_ble_eq_true rfl⟩ ?_
  rintro v G9 ⟨rfl, rfl⟩
  exact zz_ireturn (pc := 30) C dX1_dropCatches_30 rfl (Nat.le_refl _) (Nat.le_refl _) ⟨rfl, rfl⟩
theorem zXst_y {p k : Nat} {τ : zS} (h : zAct τ p k = 2) : zXst p τ k = zu (zu τ 9 (9 * p + k) 0) 11 p (if k = 4 ∨ k = 7 then zClr (τ 11 p) k else τ 11 p) := if_pos h
theorem zXst_n {p k : Nat} {τ : zS} (h : ¬ zAct τ p k = 2) : zXst p τ k = τ := if_neg h
theorem zXst_off {p k g : Nat} {τ : zS} (h9 : g ≠ 9) (h11 : g ≠ 11) : zXst p τ k g = τ g := by
  unfold zXst
  split
  · rw [zu_off h11, zu_off h9]
  · rfl
theorem zExecN_off {σ : zS} {p g : Nat} (h9 : g ≠ 9) (h11 : g ≠ 11) : ∀ n : Nat, zExecN σ p n g = σ g
  | 0 => rfl
  | n + 1 => (zXst_off h9 h11).trans (zExecN_off h9 h11 n)
theorem zExecN_9 {σ : zS} {p : Nat} : ∀ (n s : Nat), zExecN σ p n 9 (9 * p + s) = if s < n ∧ zAct σ p s = 2 then 0 else zAct σ p s
  | 0, s => by
    rw [if_neg (fun z => absurd z.1 (by omega))]
    rfl
  | n + 1, s => by
    have ih := zExecN_9 (σ := σ) (p := p) n
    show zXst p (zExecN σ p n) n 9 (9 * p + s) = _
    have hn : zAct (zExecN σ p n) p n = zAct σ p n := (ih n).trans (if_neg (fun z => absurd z.1 (by omega)))
    by_cases h2 : zAct σ p n = 2
    · rw [zXst_y (hn.trans h2), zu_off (by decide), zu_iff]
      by_cases hs : s = n
      · rw [if_pos (by omega), if_pos ⟨by omega, by rw [hs]; exact h2⟩]
      · rw [if_neg (by omega), ih s]
        by_cases hh : s < n ∧ zAct σ p s = 2
        · rw [if_pos hh, if_pos ⟨by omega, hh.2⟩]
        · rw [if_neg hh, if_neg (fun z => hh ⟨by omega, z.2⟩)]
    · rw [zXst_n (fun z => h2 (hn.symm.trans z)), ih s]
      by_cases hh : s < n ∧ zAct σ p s = 2
      · rw [if_pos hh, if_pos ⟨by omega, hh.2⟩]
      · have hh2 : ¬ (s < n + 1 ∧ zAct σ p s = 2) := fun z => by
          have h8 : s ≠ n := fun y => h2 (by rw [← y]; exact z.2)
          exact hh ⟨by omega, z.2⟩
        rw [if_neg hh, if_neg hh2]
theorem zExecN_9o {σ : zS} {p i : Nat} : ∀ n : Nat, n ≤ 9 → (∀ s, s < 9 → i ≠ 9 * p + s) → zExecN σ p n 9 i = σ 9 i
  | 0, _, _ => rfl
  | n + 1, hn, h => by
    have ih := zExecN_9o (σ := σ) n (by omega) h
    show zXst p (zExecN σ p n) n 9 i = _
    unfold zXst
    split
    · rw [zu_off (by decide), zu_iff, if_neg (h n (by omega)), ih]
    · exact ih
theorem zExecN_11o {σ : zS} {p j : Nat} (hj : j ≠ p) : ∀ n : Nat, zExecN σ p n 11 j = σ 11 j
  | 0 => rfl
  | n + 1 => by
    have ih := zExecN_11o (σ := σ) hj n
    show zXst p (zExecN σ p n) n 11 j = _
    unfold zXst
    split
    · rw [zu_iff, if_neg hj]
      exact (show zu (zExecN σ p n) 9 (9 * p + n) 0 11 j = zExecN σ p n 11 j by rw [zu_off (by decide)]).symm ▸ ih
    · exact ih
theorem zExecN_11 {σ : zS} {p : Nat} : ∀ n : Nat, n ≤ 9 → ∀ t, t < 32 → zbit (zExecN σ p n 11 p) t = (zbit (σ 11 p) t && !decide ((t = 4 ∨ t = 7) ∧ t < n ∧ zAct σ p t = 2))
  | 0, _, t, _ => by
    have : ¬ ((t = 4 ∨ t = 7) ∧ t < 0 ∧ zAct σ p t = 2) := fun z => absurd z.2.1 (by omega)
    show zbit (σ 11 p) t = _
    simp [this]
  | n + 1, hn9, t, ht => by
    have ih := zExecN_11 (σ := σ) (p := p) n (by omega) t ht
    show zbit (zXst p (zExecN σ p n) n 11 p) t = _
    have hn : zAct (zExecN σ p n) p n = zAct σ p n := (zExecN_9 n n).trans (if_neg (fun z => absurd z.1 (by omega)))
    by_cases h2 : zAct σ p n = 2
    · rw [zXst_y (hn.trans h2), zu_self]
      by_cases h47 : n = 4 ∨ n = 7
      · rw [if_pos h47, zbit_clr (by omega) ht, ih]
        by_cases htn : t = n
        · have a1 : (t = 4 ∨ t = 7) ∧ t < n + 1 ∧ zAct σ p t = 2 := ⟨by rw [htn]; exact h47, by omega, by rw [htn]; exact h2⟩
          simp [htn, h47, h2]
        · have a2 : ((t = 4 ∨ t = 7) ∧ t < n ∧ zAct σ p t = 2) ↔ ((t = 4 ∨ t = 7) ∧ t < n + 1 ∧ zAct σ p t = 2) := ⟨fun z => ⟨z.1, by omega, z.2.2⟩, fun z => ⟨z.1, by omega, z.2.2⟩⟩
          simp only [a2, htn, decide_false, Bool.not_false, Bool.and_true]
      · rw [if_neg h47, ih]
        have a2 : ((t = 4 ∨ t = 7) ∧ t < n ∧ zAct σ p t = 2) ↔ ((t = 4 ∨ t = 7) ∧ t < n + 1 ∧ zAct σ p t = 2) := ⟨fun z => ⟨z.1, by omega, z.2.2⟩, fun z => ⟨z.1, by
          have : t ≠ n := fun y => h47 (by rw [← y]; exact z.1)
          omega, z.2.2⟩⟩
        simp only [a2]
    · rw [zXst_n (fun z => h2 (hn.symm.trans z)), ih]
      have a2 : ((t = 4 ∨ t = 7) ∧ t < n ∧ zAct σ p t = 2) ↔ ((t = 4 ∨ t = 7) ∧ t < n + 1 ∧ zAct σ p t = 2) := ⟨fun z => ⟨z.1, by omega, z.2.2⟩, fun z => ⟨z.1, by
        have : t ≠ n := fun y => h2 (by rw [← y]; exact z.2.2)
        omega, z.2.2⟩⟩
      simp only [a2]
theorem zbit_144 {t : Nat} (ht : t < 32) : zbit 144 t = decide (t = 4 ∨ t = 7) := by
  have : ∀ t : Fin 32, zbit 144 t.val = decide (t.val = 4 ∨ t.val = 7) := by decide +kernel
  exact this ⟨t, ht⟩
theorem zPF_exec {σ : zS} {k : Nat} {f : Nat → Int32} (hf : zPF σ k f) : zPF (zExecN σ k 9) k (zDrpF f) := by
  obtain ⟨a0, a2, a3, a4, a5, a6, a7, a8, a10, a11, a12, a13, a14, a15, a16, a17, a18, a19⟩ := hf
  have e11 : zExecN σ k 9 11 k = f 15 &&& ((f 13 &&& 144) ^^^ (-1)) := by
    apply zbit_ext
    intro t ht
    rw [zExecN_11 9 (Nat.le_refl _) t ht, zbit_and, zbit_not _ ht, zbit_and, zbit_144 ht, a15]
    by_cases h47 : t = 4 ∨ t = 7
    · have ht9 : t < 9 := by omega
      have hb := (a12 t ht9).1
      rw [zbt_bit ht] at hb
      by_cases h2 : zAct σ k t = 2
      · have : zbit (f 13) t = true := hb.mpr h2
        simp [h47, ht9, h2, this]
      · have : zbit (f 13) t = false := by
          cases hh : zbit (f 13) t with
          | false => rfl
          | true => exact absurd (hb.mp hh) h2
        simp [h2, this]
    · simp [h47]
  have o : ∀ g, g ≠ 9 → g ≠ 11 → zExecN σ k 9 g = σ g := fun g h1 h2 => zExecN_off h1 h2 9
  have U : ∀ j, j ≠ 13 → j ≠ 15 → zDrpF f j = f j := fun j h1 h2 => by simp [zDrpF, upd, h1, h2]
  have z0 : ∀ t, t < 32 → ¬ zbt 0 t := fun t ht z => by rw [zbt_bit ht, zbit_0] at z; cases z
  unfold zPF zRpt zVal at *
  rw [o 2 (by decide) (by decide), o 3 (by decide) (by decide), o 13 (by decide) (by decide), o 4 (by decide) (by decide), o 5 (by decide) (by decide), o 6 (by decide) (by decide), o 7 (by decide) (by decide), o 8 (by decide) (by decide), o 14 (by decide) (by decide), o 15 (by decide) (by decide), o 16 (by decide) (by decide), o 17 (by decide) (by decide), o 10 (by decide) (by decide), o 12 (by decide) (by decide), o 18 (by decide) (by decide), o 19 (by decide) (by decide), o 20 (by decide) (by decide), e11]
  rw [U 0 (by decide) (by decide), U 2 (by decide) (by decide), U 3 (by decide) (by decide), U 4 (by decide) (by decide), U 5 (by decide) (by decide), U 6 (by decide) (by decide), U 7 (by decide) (by decide), U 8 (by decide) (by decide), U 9 (by decide) (by decide), U 10 (by decide) (by decide), U 11 (by decide) (by decide), U 12 (by decide) (by decide), U 14 (by decide) (by decide), U 16 (by decide) (by decide), U 17 (by decide) (by decide), U 18 (by decide) (by decide), U 19 (by decide) (by decide)]
  have e13 : zDrpF f 13 = 0 := by simp [zDrpF, upd]
  have e15 : zDrpF f 15 = f 15 &&& ((f 13 &&& 144) ^^^ (-1)) := by simp [zDrpF, upd]
  rw [e13, e15]
  refine ⟨a0, a2, a3, a4, a5, a6, a7, a8, a10, a11, fun t ht => ?_, by decide, a14, rfl, a16, a17, a18, a19⟩
  rw [zExecN_9 9 t]
  have h12 := (a12 t ht).2
  by_cases h2 : zAct σ k t = 2
  · rw [if_pos ⟨ht, h2⟩]
    refine ⟨⟨fun z => absurd z (z0 t (by omega)), fun z => absurd z (by decide)⟩, ⟨fun z => ?_, fun z => absurd z (by decide)⟩⟩
    have := h12.mp z
    rw [show σ 9 (9 * k + t) = 2 from h2] at this
    exact absurd this (by decide)
  · rw [if_neg (fun z => h2 z.2)]
    exact ⟨⟨fun z => absurd z (z0 t (by omega)), fun z => absurd z h2⟩, h12⟩
theorem zOwn_exec {σ : zS} {k : Nat} : zOwn σ (zExecN σ k 9) k := by
  refine ⟨fun j => by rw [zExecN_off (by decide) (by decide)], fun j => by rw [zExecN_off (by decide) (by decide)], fun g j hj h1 h2 h9 => ?_, fun j s hj hs => zExecN_9o 9 (Nat.le_refl _) (fun t ht => by omega), by rw [zExecN_off (by decide) (by decide)], by rw [zExecN_off (by decide) (by decide)]⟩
  by_cases h11 : g = 11
  · rw [h11]; exact zExecN_11o hj 9
  · rw [zExecN_off h9 h11]
theorem zPop_512 : ∀ t : Fin 512, zPop (nI t.val) = nI ((List.range 9).filter (fun k => decide (zbt (nI t.val) k))).length := by decide +kernel
theorem z511_nI {x : Int32} (h : x &&& 511 = x) : ∃ t : Nat, t < 512 ∧ x = nI t := by
  refine ⟨x.toBitVec.toNat, ?_, ?_⟩
  · have h1 : x.toBitVec.toNat = (x &&& 511).toBitVec.toNat := by rw [h]
    rw [h1, Int32.toBitVec_and, BitVec.toNat_and]
    exact Nat.lt_of_le_of_lt Nat.and_le_right (by decide)
  · apply Int32.toBitVec_inj.mp
    apply BitVec.eq_of_toNat_eq
    show _ = (BitVec.ofNat 32 x.toBitVec.toNat).toNat
    rw [BitVec.toNat_ofNat, Nat.mod_eq_of_lt x.toBitVec.isLt]
theorem zPop_cat {σ : zS} {k : Nat} {f : Nat → Int32} (hf : zPF σ k f) : zPop (f 13) = nI (zCatN σ k 9) := by
  have h12 := hf.2.2.2.2.2.2.2.2.2.2.1
  obtain ⟨t, ht, hx⟩ := z511_nI hf.2.2.2.2.2.2.2.2.2.2.2.1
  have h9 := zPop_512 ⟨t, ht⟩
  rw [hx]
  refine h9.trans ?_
  unfold zCatN
  congr 2
  apply List.filter_congr
  intro s hs
  have := (h12 s (List.mem_range.mp hs)).1
  rw [hx] at this
  exact decide_eq_decide.mpr this

set_option maxHeartbeats 4000000 in
set_option maxRecDepth 100000 in
theorem c_X2_exec (l : Launch) (hl : l.stackTraces = false) (D : va_G) {B G : zG} {x tb ev : Nat} {A : Nat → Nat} {σ : zS} {q : List zEv} {h m0 : Nat} {x9 : Int32} (hC : zCl B x tb ev A σ q h m0 G)  : zxMet D l yX2_exec wsX2_exec ({ frames := 7, cells := 2, slots := 12, locals := 112 } : Room) [.ref x, .int x9] G (fun v G9 => zE2 (¬ zHere σ x9) (zNot σ (pn x9)) = 0 ∧ v = some (.int (nI (zCatN σ (pn x9) 9))) ∧ zCl B x tb ev A (zExecN σ (pn x9) 9) q h m0 G9) (fun E => (zE2 (¬ zHere σ x9) (zNot σ (pn x9)) = 1 ∧ E = "java/lang/IndexOutOfBoundsException") ∨ (zE2 (¬ zHere σ x9) (zNot σ (pn x9)) = 2 ∧ E = "java/lang/IllegalStateException")) := by
  refine zxMet_of (cc := cX2_exec) (maxL := 3) (ret := (some .int)) (by decide) rfl (Nat.le_of_ble_eq_true rfl) ?_
  intro p e s m args below meth c C hnx h8
  refine zz_aload_n (pc := 0) C dX2_exec_0 rfl ?_
  refine zz_iload_n (pc := 1) C dX2_exec_1 rfl ?_
  refine zzx_callV (pc := 2) C h8 (c_X2_find l hl D hC (x9 := x9)) gX2_exec_X2_find rfl 1 (by decide +kernel) ⟨Nat.le_of_ble_eq_true rfl, Nat.le_of_ble_eq_true rfl⟩ hC.x (ci := 2) rfl rfl rfl dX2_exec_2 rfl (Nat.le_of_ble_eq_true rfl) rfl ⟨Nat.le_of_ble_eq_true rfl, Nat.le_of_ble_eq_true rfl⟩ (fun E hE => zzx_out C hnx (Or.inl ⟨zE2_1 hE.1, hE.2⟩) (Nat.le_of_ble_eq_true rfl) (Nat.le_of_ble_eq_true rfl)) ?_
  rintro v G9 ⟨hth, rfl, rfl⟩
  obtain ⟨hx1, hx2, hx3⟩ := hth.at
  obtain ⟨f, hGa, hPF, hup⟩ := hC.at (k := pn x9) hx3 hth.2.2
  refine zz_astore_n (pc := 5) C dX2_exec_5 (Nat.le_of_ble_eq_true rfl) ?_
  refine zz_aload_n (pc := 6) C dX2_exec_6 rfl ?_
  refine zzx_callS (pc := 7) C h8 (c_X2_requireCaller l hl D hC (k := pn x9) hx3 hth.2.2) gX2_exec_X2_requireCaller rfl 1 (by decide +kernel) ⟨Nat.le_of_ble_eq_true rfl, Nat.le_of_ble_eq_true rfl⟩ rfl dX2_exec_7 rfl (Nat.le_of_ble_eq_true rfl) rfl ⟨Nat.le_of_ble_eq_true rfl, Nat.le_of_ble_eq_true rfl⟩ (fun E hE => zzx_out C hnx (Or.inr ⟨zE2_2 (fun z => z hth) hE.1, hE.2⟩) (Nat.le_of_ble_eq_true rfl) (Nat.le_of_ble_eq_true rfl)) ?_
  rintro v G9 ⟨hnot, rfl, rfl⟩
  obtain ⟨hl1, hl4, hl5, hl6⟩ := zRunN.live hnot
  refine zz_aload_n (pc := 10) C dX2_exec_10 rfl ?_
  refine zz_callV (pc := 11) C (c_X1_dropCatches l D hGa) gX2_exec_X1_dropCatches rfl 0 (by decide +kernel) ⟨Nat.le_of_ble_eq_true rfl, Nat.le_of_ble_eq_true rfl⟩ hGa (ci := 1) rfl rfl rfl dX2_exec_11 rfl (Nat.le_of_ble_eq_true rfl) rfl ⟨Nat.le_of_ble_eq_true rfl, Nat.le_of_ble_eq_true rfl⟩ ?_
  rintro v G9 ⟨rfl, rfl⟩
  have hC2 := hup _ _ zOwn_exec (zPF_exec hPF)
  exact zzx_ret (zz_ireturn (pc := 14) C dX2_exec_14 rfl (Nat.le_of_ble_eq_true rfl) (Nat.le_of_ble_eq_true rfl) ⟨zE2_0 (fun z => z hth) hnot, by rw [zPop_cat hPF], hC2⟩)
