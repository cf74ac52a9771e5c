/-! the reference at its beginning -/
def zR0 : zS := fun f _ => if f = 21 ∨ f = 22 then -1 else 0
def zMl (ma : Nat → Nat) (j : Nat) : List Value := (List.range 29).map (fun k => if k < j then (if mnum k then .int (zR0 k 0) else .ref (ma k)) else (if mnum k then .int 0 else .null))
def zup (ma : Nat → Nat) (j a : Nat) : Nat → Nat := fun k => if k = j then a else ma k
def zMI (B : zG) (y j : Nat) (ma : Nat → Nat) (G : zG) : Prop :=
  zFr 2 B G ∧ G y = some (2, .inr (3, zMl ma j)) ∧ (∀ k, k < 29 → k < j → mnum k = false → G (ma k) = some (2, .inl (mty k, mlen k, .inl (fun _ => 0)))) ∧ ∀ i k, i < 29 → k < 29 → i < j → k < j → mnum i = false → mnum k = false → ma i = ma k → i = k
theorem zMl_len {ma : Nat → Nat} {j : Nat} : (zMl ma j).length = 29 := by simp [zMl]
theorem zMl_set {ma : Nat → Nat} {j a : Nat} (hn : mnum j = false) : (zMl ma j).set j (.ref a) = zMl (zup ma j a) (j + 1) := by
  apply List.ext_getElem?
  intro i
  rw [List.getElem?_set]
  simp only [zMl, List.getElem?_map, List.length_map, List.length_range]
  by_cases hij : j = i
  · subst hij
    by_cases hj : j < 29
    · rw [if_pos rfl, if_pos hj, List.getElem?_range hj]
      simp [hn, zup]
    · rw [if_pos rfl, if_neg hj, List.getElem?_eq_none (by simp; omega)]
      rfl
  · rw [if_neg hij]
    by_cases hi : i < 29
    · rw [List.getElem?_range hi]
      have e : (i < j + 1) ↔ i < j := by omega
      have e2 : ¬ i = j := fun z => hij z.symm
      simp [e, zup, e2]
    · rw [List.getElem?_eq_none (by simp; omega)]
      rfl
theorem zMl_setn {ma : Nat → Nat} {j : Nat} (hn : mnum j = true) : (zMl ma j).set j (.int (zR0 j 0)) = zMl ma (j + 1) := by
  apply List.ext_getElem?
  intro i
  rw [List.getElem?_set]
  simp only [zMl, List.getElem?_map, List.length_map, List.length_range]
  by_cases hij : j = i
  · subst hij
    by_cases hj : j < 29
    · rw [if_pos rfl, if_pos hj, List.getElem?_range hj]
      simp [hn]
    · rw [if_pos rfl, if_neg hj, List.getElem?_eq_none (by simp; omega)]
      rfl
  · rw [if_neg hij]
    by_cases hi : i < 29
    · rw [List.getElem?_range hi]
      have e : (i < j + 1) ↔ i < j := by omega
      simp [e]
    · rw [List.getElem?_eq_none (by simp; omega)]
      rfl
theorem zMI.ref {B G : zG} {y j a : Nat} {ma : Nat → Nat} (h : zMI B y j ma G) (hn : mnum j = false) (ha : G a = none) : zMI B y (j + 1) (zup ma j a) (zU (zU G a (2, .inl (mty j, mlen j, .inl (fun _ => 0)))) y (2, .inr (3, (zMl ma j).set j (.ref a)))) := by
  obtain ⟨h1, h2, h3, h4⟩ := h
  have hya : y ≠ a := fun z => by rw [z, ha] at h2; cases h2
  have h2b : (zU G a (2, .inl (mty j, mlen j, .inl (fun _ => 0)))) y = some (2, .inr (3, zMl ma j)) := by rw [zU_ne hya]; exact h2
  have hm : ∀ k, k < 29 → k < j → mnum k = false → ma k ≠ a ∧ ma k ≠ y := fun k k1 k2 k3 => ⟨fun z => (by have := h3 k k1 k2 k3; rw [z, ha] at this; cases this), fun z => (by have := h3 k k1 k2 k3; rw [z, h2] at this; cases this)⟩
  refine ⟨(h1.new ha).upd h2b, by rw [zU_self, zMl_set hn], fun k k1 k2 k3 => ?_, fun i k i1 k1 i2 k2 i3 k3 e => ?_⟩
  · by_cases hk : k = j
    · subst hk
      have : zup ma k a k = a := by simp [zup]
      rw [this, zU_ne (Ne.symm hya), zU_self]
    · have : zup ma j a k = ma k := by simp [zup, hk]
      rw [this, zU_ne (hm k k1 (by omega) k3).2, zU_ne (hm k k1 (by omega) k3).1]
      exact h3 k k1 (by omega) k3
  · by_cases hi : i = j
    · by_cases hk : k = j
      · omega
      · have e1 : zup ma j a i = a := by simp [zup, hi]
        have e2 : zup ma j a k = ma k := by simp [zup, hk]
        rw [e1, e2] at e
        exact absurd e.symm (hm k k1 (by omega) k3).1
    · have e1 : zup ma j a i = ma i := by simp [zup, hi]
      by_cases hk : k = j
      · have e2 : zup ma j a k = a := by simp [zup, hk]
        rw [e1, e2] at e
        exact absurd e (hm i i1 (by omega) i3).1
      · have e2 : zup ma j a k = ma k := by simp [zup, hk]
        rw [e1, e2] at e
        exact h4 i k i1 k1 (by omega) (by omega) i3 k3 e
theorem zMI.num {B G : zG} {y j : Nat} {ma : Nat → Nat} (h : zMI B y j ma G) (hn : mnum j = true) : zMI B y (j + 1) ma (zU G y (2, .inr (3, (zMl ma j).set j (.int (zR0 j 0))))) := by
  obtain ⟨h1, h2, h3, h4⟩ := h
  have hlt : ∀ k, k < j + 1 → mnum k = false → k < j := fun k k1 k2 => by
    have : k ≠ j := fun z => by rw [z, hn] at k2; cases k2
    omega
  refine ⟨h1.upd h2, by rw [zU_self, zMl_setn hn], fun k k1 k2 k3 => ?_, fun i k i1 k1 i2 k2 i3 k3 e => h4 i k i1 k1 (hlt i i2 i3) (hlt k k2 k3) i3 k3 e⟩
  have h9 := h3 k k1 (hlt k k2 k3) k3
  rw [zU_ne (fun z => by rw [z, h2] at h9; cases h9)]
  exact h9
theorem zMI.skip {B G : zG} {y j : Nat} {ma : Nat → Nat} (h : zMI B y j ma G) (hn : mnum j = true) (h0 : zR0 j 0 = 0) : zMI B y (j + 1) ma G := by
  obtain ⟨h1, h2, h3, h4⟩ := h
  have hlt : ∀ k, k < j + 1 → mnum k = false → k < j := fun k k1 k2 => by
    have : k ≠ j := fun z => by rw [z, hn] at k2; cases k2
    omega
  refine ⟨h1, ?_, fun k k1 k2 k3 => h3 k k1 (hlt k k2 k3) k3, fun i k i1 k1 i2 k2 i3 k3 e => h4 i k i1 k1 (hlt i i2 i3) (hlt k k2 k3) i3 k3 e⟩
  rw [h2]
  congr 4
  unfold zMl
  apply List.map_congr_left
  intro k hk
  by_cases hkj : k = j
  · subst hkj
    simp [hn, h0]
  · have e : (k < j + 1) ↔ k < j := by omega
    simp [e]
theorem zMI.done {B G : zG} {y : Nat} {ma : Nat → Nat} (h : zMI B y 29 ma G) : zModR B y ma zR0 G := by
  obtain ⟨h1, h2, h3, h4⟩ := h
  refine ⟨h1, h2, fun k k1 k2 => ?_, fun i k i1 k1 i3 k3 e => h4 i k i1 k1 i1 k1 i3 k3 e⟩
  rw [h3 k k1 k1 k2]
  have : ¬ (k = 21 ∨ k = 22) := fun z => by rcases z with rfl | rfl <;> cases k2
  have e : (fun _ => 0 : Nat → Int32) = zR0 k := by
    funext i
    simp [zR0, this]
  rw [← e]
def zInit : zS := zu (zu (zu (zu (zu (zu (zu zR0 0 1 1) 1 1 (-1)) 2 1 1) 3 1 1) 18 1 (-1)) 19 1 (-1)) 20 1 (-1)
theorem fl_X3_init_7 : Cond.fieldLink RX3 7 "SignalpostModel" "isThere" "[Z" ∈ wsX3_init := by decide +kernel
theorem fl_X3_init_13 : Cond.fieldLink RX3 13 "SignalpostModel" "parent" "[I" ∈ wsX3_init := by decide +kernel
theorem fl_X3_init_17 : Cond.fieldLink RX3 17 "SignalpostModel" "group" "[I" ∈ wsX3_init := by decide +kernel
theorem fl_X3_init_20 : Cond.fieldLink RX3 20 "SignalpostModel" "session" "[I" ∈ wsX3_init := by decide +kernel
theorem fl_X3_init_23 : Cond.fieldLink RX3 23 "SignalpostModel" "isZombie" "[Z" ∈ wsX3_init := by decide +kernel
theorem fl_X3_init_26 : Cond.fieldLink RX3 26 "SignalpostModel" "isStopped" "[Z" ∈ wsX3_init := by decide +kernel
theorem fl_X3_init_29 : Cond.fieldLink RX3 29 "SignalpostModel" "isWaiting" "[Z" ∈ wsX3_init := by decide +kernel
theorem fl_X3_init_32 : Cond.fieldLink RX3 32 "SignalpostModel" "awaited" "[I" ∈ wsX3_init := by decide +kernel
theorem fl_X3_init_35 : Cond.fieldLink RX3 35 "SignalpostModel" "forStops" "[Z" ∈ wsX3_init := by decide +kernel
theorem fl_X3_init_38 : Cond.fieldLink RX3 38 "SignalpostModel" "action" "[I" ∈ wsX3_init := by decide +kernel
theorem fl_X3_init_41 : Cond.fieldLink RX3 41 "SignalpostModel" "mask" "[I" ∈ wsX3_init := by decide +kernel
theorem fl_X3_init_44 : Cond.fieldLink RX3 44 "SignalpostModel" "pending" "[I" ∈ wsX3_init := by decide +kernel
theorem fl_X3_init_47 : Cond.fieldLink RX3 47 "SignalpostModel" "caught" "[I" ∈ wsX3_init := by decide +kernel
theorem fl_X3_init_50 : Cond.fieldLink RX3 50 "SignalpostModel" "isReaper" "[Z" ∈ wsX3_init := by decide +kernel
theorem fl_X3_init_53 : Cond.fieldLink RX3 53 "SignalpostModel" "how" "[I" ∈ wsX3_init := by decide +kernel
theorem fl_X3_init_56 : Cond.fieldLink RX3 56 "SignalpostModel" "value" "[I" ∈ wsX3_init := by decide +kernel
theorem fl_X3_init_59 : Cond.fieldLink RX3 59 "SignalpostModel" "stopSignal" "[I" ∈ wsX3_init := by decide +kernel
theorem fl_X3_init_62 : Cond.fieldLink RX3 62 "SignalpostModel" "isNews" "[Z" ∈ wsX3_init := by decide +kernel
theorem fl_X3_init_65 : Cond.fieldLink RX3 65 "SignalpostModel" "waitResult" "[I" ∈ wsX3_init := by decide +kernel
theorem fl_X3_init_68 : Cond.fieldLink RX3 68 "SignalpostModel" "reported" "[I" ∈ wsX3_init := by decide +kernel
theorem fl_X3_init_71 : Cond.fieldLink RX3 71 "SignalpostModel" "reportedValue" "[I" ∈ wsX3_init := by decide +kernel
theorem fl_X3_init_74 : Cond.fieldLink RX3 74 "SignalpostModel" "terminal" "I" ∈ wsX3_init := by decide +kernel
theorem fl_X3_init_78 : Cond.fieldLink RX3 78 "SignalpostModel" "foreground" "I" ∈ wsX3_init := by decide +kernel
theorem fl_X3_init_81 : Cond.fieldLink RX3 81 "SignalpostModel" "ring" "[I" ∈ wsX3_init := by decide +kernel
theorem fl_X3_init_84 : Cond.fieldLink RX3 84 "SignalpostModel" "wasOrphaned" "[Z" ∈ wsX3_init := by decide +kernel
theorem fl_X3_init_87 : Cond.fieldLink RX3 87 "SignalpostModel" "wasChild" "[Z" ∈ wsX3_init := by decide +kernel
theorem in_X3_init_X3 : ∀ w ∈ u_ws RX3 TX3 29, w ∈ wsX3_init := by decide +kernel
set_option maxHeartbeats 4000000 in
set_option maxRecDepth 100000 in
theorem c_X3_init (l : Launch) (D : va_G) {B G : zG} {y : Nat} {ma : Nat → Nat} (hI : zMI B y 0 ma G) : zMet D l yX3_init wsX3_init ({ frames := 1, cells := 24, slots := 9463, locals := 20 } : Room) [.ref y] G (fun v G9 => v = none ∧ ∃ ma, zMod B y ma zInit [] 0 G9) := by
  refine zMet_of (cc := cX3_init) (maxL := 1) (ret := none) (by decide) rfl (Nat.le_of_ble_eq_true rfl) ?_
  intro p e s m args below meth c C hmn
  refine zz_aload_n (pc := 0) C dX3_init_0 rfl ?_
  refine zz_objInit (pc := 1) C (by decide +kernel) (by decide +kernel) (by decide +kernel) rfl dX3_init_1 (Nat.le_of_ble_eq_true rfl) (Nat.le_of_ble_eq_true rfl) ?_
  refine zz_aload_n (pc := 4) C dX3_init_4 rfl ?_
  refine zz_bipush (pc := 5) C (v := 41) (by decide) dX3_init_5 ?_
  refine zz_newarr (pc := 7) C 2 (ty := .boolean) (N := 41) (x0 := (41, .inl (fun _ => 0))) (by decide +kernel) rfl (fun _ h => h) (fun cA => rfl) (by decide) (by decide) (by decide) (Nat.le_of_ble_eq_true rfl) (Nat.le_of_ble_eq_true rfl) dX3_init_7 (fun b0 hbn0 _ => ?_)
  refine zz_putF (pc := 9) C in_X3_init_X3 tyX3 tyX3_ok nmX3 (ci := 3) (t := 2) rfl 0 (by decide) fl_X3_init_7 rfl rfl hmn rfl dX3_init_9 ((zU_ne (fun z => by have h9 := hI.2.1; subst z; exact Option.some_ne_none _ (h9.symm.trans hbn0))).trans hI.2.1) rfl rfl (by rw [zMl_len]; decide) ?_
  have hI := hI.ref (j := 0) rfl hbn0
  refine zz_aload_n (pc := 12) C dX3_init_12 rfl ?_
  refine zz_bipush (pc := 13) C (v := 41) (by decide) dX3_init_13 ?_
  refine zz_newarr (pc := 15) C 2 (ty := .int) (N := 41) (x0 := (41, .inl (fun _ => 0))) (by decide +kernel) rfl (fun _ h => h) (fun cA => rfl) (by decide) (by decide) (by decide) (Nat.le_of_ble_eq_true rfl) (Nat.le_of_ble_eq_true rfl) dX3_init_15 (fun b1 hbn1 _ => ?_)
  refine zz_putF (pc := 17) C in_X3_init_X3 tyX3 tyX3_ok nmX3 (ci := 3) (t := 2) rfl 1 (by decide) fl_X3_init_13 rfl rfl hmn rfl dX3_init_17 ((zU_ne (fun z => by have h9 := hI.2.1; subst z; exact Option.some_ne_none _ (h9.symm.trans hbn1))).trans hI.2.1) rfl rfl (by rw [zMl_len]; decide) ?_
  have hI := hI.ref (j := 1) rfl hbn1
  refine zz_aload_n (pc := 20) C dX3_init_20 rfl ?_
  refine zz_bipush (pc := 21) C (v := 41) (by decide) dX3_init_21 ?_
  refine zz_newarr (pc := 23) C 2 (ty := .int) (N := 41) (x0 := (41, .inl (fun _ => 0))) (by decide +kernel) rfl (fun _ h => h) (fun cA => rfl) (by decide) (by decide) (by decide) (Nat.le_of_ble_eq_true rfl) (Nat.le_of_ble_eq_true rfl) dX3_init_23 (fun b2 hbn2 _ => ?_)
  refine zz_putF (pc := 25) C in_X3_init_X3 tyX3 tyX3_ok nmX3 (ci := 3) (t := 2) rfl 2 (by decide) fl_X3_init_17 rfl rfl hmn rfl dX3_init_25 ((zU_ne (fun z => by have h9 := hI.2.1; subst z; exact Option.some_ne_none _ (h9.symm.trans hbn2))).trans hI.2.1) rfl rfl (by rw [zMl_len]; decide) ?_
  have hI := hI.ref (j := 2) rfl hbn2
  refine zz_aload_n (pc := 28) C dX3_init_28 rfl ?_
  refine zz_bipush (pc := 29) C (v := 41) (by decide) dX3_init_29 ?_
  refine zz_newarr (pc := 31) C 2 (ty := .int) (N := 41) (x0 := (41, .inl (fun _ => 0))) (by decide +kernel) rfl (fun _ h => h) (fun cA => rfl) (by decide) (by decide) (by decide) (Nat.le_of_ble_eq_true rfl) (Nat.le_of_ble_eq_true rfl) dX3_init_31 (fun b3 hbn3 _ => ?_)
  refine zz_putF (pc := 33) C in_X3_init_X3 tyX3 tyX3_ok nmX3 (ci := 3) (t := 2) rfl 3 (by decide) fl_X3_init_20 rfl rfl hmn rfl dX3_init_33 ((zU_ne (fun z => by have h9 := hI.2.1; subst z; exact Option.some_ne_none _ (h9.symm.trans hbn3))).trans hI.2.1) rfl rfl (by rw [zMl_len]; decide) ?_
  have hI := hI.ref (j := 3) rfl hbn3
  refine zz_aload_n (pc := 36) C dX3_init_36 rfl ?_
  refine zz_bipush (pc := 37) C (v := 41) (by decide) dX3_init_37 ?_
  refine zz_newarr (pc := 39) C 2 (ty := .boolean) (N := 41) (x0 := (41, .inl (fun _ => 0))) (by decide +kernel) rfl (fun _ h => h) (fun cA => rfl) (by decide) (by decide) (by decide) (Nat.le_of_ble_eq_true rfl) (Nat.le_of_ble_eq_true rfl) dX3_init_39 (fun b4 hbn4 _ => ?_)
  refine zz_putF (pc := 41) C in_X3_init_X3 tyX3 tyX3_ok nmX3 (ci := 3) (t := 2) rfl 4 (by decide) fl_X3_init_23 rfl rfl hmn rfl dX3_init_41 ((zU_ne (fun z => by have h9 := hI.2.1; subst z; exact Option.some_ne_none _ (h9.symm.trans hbn4))).trans hI.2.1) rfl rfl (by rw [zMl_len]; decide) ?_
  have hI := hI.ref (j := 4) rfl hbn4
  refine zz_aload_n (pc := 44) C dX3_init_44 rfl ?_
  refine zz_bipush (pc := 45) C (v := 41) (by decide) dX3_init_45 ?_
  refine zz_newarr (pc := 47) C 2 (ty := .boolean) (N := 41) (x0 := (41, .inl (fun _ => 0))) (by decide +kernel) rfl (fun _ h => h) (fun cA => rfl) (by decide) (by decide) (by decide) (Nat.le_of_ble_eq_true rfl) (Nat.le_of_ble_eq_true rfl) dX3_init_47 (fun b5 hbn5 _ => ?_)
  refine zz_putF (pc := 49) C in_X3_init_X3 tyX3 tyX3_ok nmX3 (ci := 3) (t := 2) rfl 5 (by decide) fl_X3_init_26 rfl rfl hmn rfl dX3_init_49 ((zU_ne (fun z => by have h9 := hI.2.1; subst z; exact Option.some_ne_none _ (h9.symm.trans hbn5))).trans hI.2.1) rfl rfl (by rw [zMl_len]; decide) ?_
  have hI := hI.ref (j := 5) rfl hbn5
  refine zz_aload_n (pc := 52) C dX3_init_52 rfl ?_
  refine zz_bipush (pc := 53) C (v := 41) (by decide) dX3_init_53 ?_
  refine zz_newarr (pc := 55) C 2 (ty := .boolean) (N := 41) (x0 := (41, .inl (fun _ => 0))) (by decide +kernel) rfl (fun _ h => h) (fun cA => rfl) (by decide) (by decide) (by decide) (Nat.le_of_ble_eq_true rfl) (Nat.le_of_ble_eq_true rfl) dX3_init_55 (fun b6 hbn6 _ => ?_)
  refine zz_putF (pc := 57) C in_X3_init_X3 tyX3 tyX3_ok nmX3 (ci := 3) (t := 2) rfl 6 (by decide) fl_X3_init_29 rfl rfl hmn rfl dX3_init_57 ((zU_ne (fun z => by have h9 := hI.2.1; subst z; exact Option.some_ne_none _ (h9.symm.trans hbn6))).trans hI.2.1) rfl rfl (by rw [zMl_len]; decide) ?_
  have hI := hI.ref (j := 6) rfl hbn6
  refine zz_aload_n (pc := 60) C dX3_init_60 rfl ?_
  refine zz_bipush (pc := 61) C (v := 41) (by decide) dX3_init_61 ?_
  refine zz_newarr (pc := 63) C 2 (ty := .int) (N := 41) (x0 := (41, .inl (fun _ => 0))) (by decide +kernel) rfl (fun _ h => h) (fun cA => rfl) (by decide) (by decide) (by decide) (Nat.le_of_ble_eq_true rfl) (Nat.le_of_ble_eq_true rfl) dX3_init_63 (fun b7 hbn7 _ => ?_)
  refine zz_putF (pc := 65) C in_X3_init_X3 tyX3 tyX3_ok nmX3 (ci := 3) (t := 2) rfl 7 (by decide) fl_X3_init_32 rfl rfl hmn rfl dX3_init_65 ((zU_ne (fun z => by have h9 := hI.2.1; subst z; exact Option.some_ne_none _ (h9.symm.trans hbn7))).trans hI.2.1) rfl rfl (by rw [zMl_len]; decide) ?_
  have hI := hI.ref (j := 7) rfl hbn7
  refine zz_aload_n (pc := 68) C dX3_init_68 rfl ?_
  refine zz_bipush (pc := 69) C (v := 41) (by decide) dX3_init_69 ?_
  refine zz_newarr (pc := 71) C 2 (ty := .boolean) (N := 41) (x0 := (41, .inl (fun _ => 0))) (by decide +kernel) rfl (fun _ h => h) (fun cA => rfl) (by decide) (by decide) (by decide) (Nat.le_of_ble_eq_true rfl) (Nat.le_of_ble_eq_true rfl) dX3_init_71 (fun b8 hbn8 _ => ?_)
  refine zz_putF (pc := 73) C in_X3_init_X3 tyX3 tyX3_ok nmX3 (ci := 3) (t := 2) rfl 8 (by decide) fl_X3_init_35 rfl rfl hmn rfl dX3_init_73 ((zU_ne (fun z => by have h9 := hI.2.1; subst z; exact Option.some_ne_none _ (h9.symm.trans hbn8))).trans hI.2.1) rfl rfl (by rw [zMl_len]; decide) ?_
  have hI := hI.ref (j := 8) rfl hbn8
  refine zz_aload_n (pc := 76) C dX3_init_76 rfl ?_
  refine zz_sipush (pc := 77) C (v := 369) (by decide) dX3_init_77 ?_
  refine zz_newarr (pc := 80) C 2 (ty := .int) (N := 369) (x0 := (369, .inl (fun _ => 0))) (by decide +kernel) rfl (fun _ h => h) (fun cA => rfl) (by decide) (by decide) (by decide) (Nat.le_of_ble_eq_true rfl) (Nat.le_of_ble_eq_true rfl) dX3_init_80 (fun b9 hbn9 _ => ?_)
  refine zz_putF (pc := 82) C in_X3_init_X3 tyX3 tyX3_ok nmX3 (ci := 3) (t := 2) rfl 9 (by decide) fl_X3_init_38 rfl rfl hmn rfl dX3_init_82 ((zU_ne (fun z => by have h9 := hI.2.1; subst z; exact Option.some_ne_none _ (h9.symm.trans hbn9))).trans hI.2.1) rfl rfl (by rw [zMl_len]; decide) ?_
  have hI := hI.ref (j := 9) rfl hbn9
  refine zz_aload_n (pc := 85) C dX3_init_85 rfl ?_
  refine zz_bipush (pc := 86) C (v := 41) (by decide) dX3_init_86 ?_
  refine zz_newarr (pc := 88) C 2 (ty := .int) (N := 41) (x0 := (41, .inl (fun _ => 0))) (by decide +kernel) rfl (fun _ h => h) (fun cA => rfl) (by decide) (by decide) (by decide) (Nat.le_of_ble_eq_true rfl) (Nat.le_of_ble_eq_true rfl) dX3_init_88 (fun b10 hbn10 _ => ?_)
  refine zz_putF (pc := 90) C in_X3_init_X3 tyX3 tyX3_ok nmX3 (ci := 3) (t := 2) rfl 10 (by decide) fl_X3_init_41 rfl rfl hmn rfl dX3_init_90 ((zU_ne (fun z => by have h9 := hI.2.1; subst z; exact Option.some_ne_none _ (h9.symm.trans hbn10))).trans hI.2.1) rfl rfl (by rw [zMl_len]; decide) ?_
  have hI := hI.ref (j := 10) rfl hbn10
  refine zz_aload_n (pc := 93) C dX3_init_93 rfl ?_
  refine zz_bipush (pc := 94) C (v := 41) (by decide) dX3_init_94 ?_
  refine zz_newarr (pc := 96) C 2 (ty := .int) (N := 41) (x0 := (41, .inl (fun _ => 0))) (by decide +kernel) rfl (fun _ h => h) (fun cA => rfl) (by decide) (by decide) (by decide) (Nat.le_of_ble_eq_true rfl) (Nat.le_of_ble_eq_true rfl) dX3_init_96 (fun b11 hbn11 _ => ?_)
  refine zz_putF (pc := 98) C in_X3_init_X3 tyX3 tyX3_ok nmX3 (ci := 3) (t := 2) rfl 11 (by decide) fl_X3_init_44 rfl rfl hmn rfl dX3_init_98 ((zU_ne (fun z => by have h9 := hI.2.1; subst z; exact Option.some_ne_none _ (h9.symm.trans hbn11))).trans hI.2.1) rfl rfl (by rw [zMl_len]; decide) ?_
  have hI := hI.ref (j := 11) rfl hbn11
  refine zz_aload_n (pc := 101) C dX3_init_101 rfl ?_
  refine zz_bipush (pc := 102) C (v := 41) (by decide) dX3_init_102 ?_
  refine zz_newarr (pc := 104) C 2 (ty := .int) (N := 41) (x0 := (41, .inl (fun _ => 0))) (by decide +kernel) rfl (fun _ h => h) (fun cA => rfl) (by decide) (by decide) (by decide) (Nat.le_of_ble_eq_true rfl) (Nat.le_of_ble_eq_true rfl) dX3_init_104 (fun b12 hbn12 _ => ?_)
  refine zz_putF (pc := 106) C in_X3_init_X3 tyX3 tyX3_ok nmX3 (ci := 3) (t := 2) rfl 12 (by decide) fl_X3_init_47 rfl rfl hmn rfl dX3_init_106 ((zU_ne (fun z => by have h9 := hI.2.1; subst z; exact Option.some_ne_none _ (h9.symm.trans hbn12))).trans hI.2.1) rfl rfl (by rw [zMl_len]; decide) ?_
  have hI := hI.ref (j := 12) rfl hbn12
  refine zz_aload_n (pc := 109) C dX3_init_109 rfl ?_
  refine zz_bipush (pc := 110) C (v := 41) (by decide) dX3_init_110 ?_
  refine zz_newarr (pc := 112) C 2 (ty := .boolean) (N := 41) (x0 := (41, .inl (fun _ => 0))) (by decide +kernel) rfl (fun _ h => h) (fun cA => rfl) (by decide) (by decide) (by decide) (Nat.le_of_ble_eq_true rfl) (Nat.le_of_ble_eq_true rfl) dX3_init_112 (fun b13 hbn13 _ => ?_)
  refine zz_putF (pc := 114) C in_X3_init_X3 tyX3 tyX3_ok nmX3 (ci := 3) (t := 2) rfl 13 (by decide) fl_X3_init_50 rfl rfl hmn rfl dX3_init_114 ((zU_ne (fun z => by have h9 := hI.2.1; subst z; exact Option.some_ne_none _ (h9.symm.trans hbn13))).trans hI.2.1) rfl rfl (by rw [zMl_len]; decide) ?_
  have hI := hI.ref (j := 13) rfl hbn13
  refine zz_aload_n (pc := 117) C dX3_init_117 rfl ?_
  refine zz_bipush (pc := 118) C (v := 41) (by decide) dX3_init_118 ?_
  refine zz_newarr (pc := 120) C 2 (ty := .int) (N := 41) (x0 := (41, .inl (fun _ => 0))) (by decide +kernel) rfl (fun _ h => h) (fun cA => rfl) (by decide) (by decide) (by decide) (Nat.le_of_ble_eq_true rfl) (Nat.le_of_ble_eq_true rfl) dX3_init_120 (fun b14 hbn14 _ => ?_)
  refine zz_putF (pc := 122) C in_X3_init_X3 tyX3 tyX3_ok nmX3 (ci := 3) (t := 2) rfl 14 (by decide) fl_X3_init_53 rfl rfl hmn rfl dX3_init_122 ((zU_ne (fun z => by have h9 := hI.2.1; subst z; exact Option.some_ne_none _ (h9.symm.trans hbn14))).trans hI.2.1) rfl rfl (by rw [zMl_len]; decide) ?_
  have hI := hI.ref (j := 14) rfl hbn14
  refine zz_aload_n (pc := 125) C dX3_init_125 rfl ?_
  refine zz_bipush (pc := 126) C (v := 41) (by decide) dX3_init_126 ?_
  refine zz_newarr (pc := 128) C 2 (ty := .int) (N := 41) (x0 := (41, .inl (fun _ => 0))) (by decide +kernel) rfl (fun _ h => h) (fun cA => rfl) (by decide) (by decide) (by decide) (Nat.le_of_ble_eq_true rfl) (Nat.le_of_ble_eq_true rfl) dX3_init_128 (fun b15 hbn15 _ => ?_)
  refine zz_putF (pc := 130) C in_X3_init_X3 tyX3 tyX3_ok nmX3 (ci := 3) (t := 2) rfl 15 (by decide) fl_X3_init_56 rfl rfl hmn rfl dX3_init_130 ((zU_ne (fun z => by have h9 := hI.2.1; subst z; exact Option.some_ne_none _ (h9.symm.trans hbn15))).trans hI.2.1) rfl rfl (by rw [zMl_len]; decide) ?_
  have hI := hI.ref (j := 15) rfl hbn15
  refine zz_aload_n (pc := 133) C dX3_init_133 rfl ?_
  refine zz_bipush (pc := 134) C (v := 41) (by decide) dX3_init_134 ?_
  refine zz_newarr (pc := 136) C 2 (ty := .int) (N := 41) (x0 := (41, .inl (fun _ => 0))) (by decide +kernel) rfl (fun _ h => h) (fun cA => rfl) (by decide) (by decide) (by decide) (Nat.le_of_ble_eq_true rfl) (Nat.le_of_ble_eq_true rfl) dX3_init_136 (fun b16 hbn16 _ => ?_)
  refine zz_putF (pc := 138) C in_X3_init_X3 tyX3 tyX3_ok nmX3 (ci := 3) (t := 2) rfl 16 (by decide) fl_X3_init_59 rfl rfl hmn rfl dX3_init_138 ((zU_ne (fun z => by have h9 := hI.2.1; subst z; exact Option.some_ne_none _ (h9.symm.trans hbn16))).trans hI.2.1) rfl rfl (by rw [zMl_len]; decide) ?_
  have hI := hI.ref (j := 16) rfl hbn16
  refine zz_aload_n (pc := 141) C dX3_init_141 rfl ?_
  refine zz_bipush (pc := 142) C (v := 41) (by decide) dX3_init_142 ?_
  refine zz_newarr (pc := 144) C 2 (ty := .boolean) (N := 41) (x0 := (41, .inl (fun _ => 0))) (by decide +kernel) rfl (fun _ h => h) (fun cA => rfl) (by decide) (by decide) (by decide) (Nat.le_of_ble_eq_true rfl) (Nat.le_of_ble_eq_true rfl) dX3_init_144 (fun b17 hbn17 _ => ?_)
  refine zz_putF (pc := 146) C in_X3_init_X3 tyX3 tyX3_ok nmX3 (ci := 3) (t := 2) rfl 17 (by decide) fl_X3_init_62 rfl rfl hmn rfl dX3_init_146 ((zU_ne (fun z => by have h9 := hI.2.1; subst z; exact Option.some_ne_none _ (h9.symm.trans hbn17))).trans hI.2.1) rfl rfl (by rw [zMl_len]; decide) ?_
  have hI := hI.ref (j := 17) rfl hbn17
  refine zz_aload_n (pc := 149) C dX3_init_149 rfl ?_
  refine zz_bipush (pc := 150) C (v := 41) (by decide) dX3_init_150 ?_
  refine zz_newarr (pc := 152) C 2 (ty := .int) (N := 41) (x0 := (41, .inl (fun _ => 0))) (by decide +kernel) rfl (fun _ h => h) (fun cA => rfl) (by decide) (by decide) (by decide) (Nat.le_of_ble_eq_true rfl) (Nat.le_of_ble_eq_true rfl) dX3_init_152 (fun b18 hbn18 _ => ?_)
  refine zz_putF (pc := 154) C in_X3_init_X3 tyX3 tyX3_ok nmX3 (ci := 3) (t := 2) rfl 18 (by decide) fl_X3_init_65 rfl rfl hmn rfl dX3_init_154 ((zU_ne (fun z => by have h9 := hI.2.1; subst z; exact Option.some_ne_none _ (h9.symm.trans hbn18))).trans hI.2.1) rfl rfl (by rw [zMl_len]; decide) ?_
  have hI := hI.ref (j := 18) rfl hbn18
  refine zz_aload_n (pc := 157) C dX3_init_157 rfl ?_
  refine zz_bipush (pc := 158) C (v := 41) (by decide) dX3_init_158 ?_
  refine zz_newarr (pc := 160) C 2 (ty := .int) (N := 41) (x0 := (41, .inl (fun _ => 0))) (by decide +kernel) rfl (fun _ h => h) (fun cA => rfl) (by decide) (by decide) (by decide) (Nat.le_of_ble_eq_true rfl) (Nat.le_of_ble_eq_true rfl) dX3_init_160 (fun b19 hbn19 _ => ?_)
  refine zz_putF (pc := 162) C in_X3_init_X3 tyX3 tyX3_ok nmX3 (ci := 3) (t := 2) rfl 19 (by decide) fl_X3_init_68 rfl rfl hmn rfl dX3_init_162 ((zU_ne (fun z => by have h9 := hI.2.1; subst z; exact Option.some_ne_none _ (h9.symm.trans hbn19))).trans hI.2.1) rfl rfl (by rw [zMl_len]; decide) ?_
  have hI := hI.ref (j := 19) rfl hbn19
  refine zz_aload_n (pc := 165) C dX3_init_165 rfl ?_
  refine zz_bipush (pc := 166) C (v := 41) (by decide) dX3_init_166 ?_
  refine zz_newarr (pc := 168) C 2 (ty := .int) (N := 41) (x0 := (41, .inl (fun _ => 0))) (by decide +kernel) rfl (fun _ h => h) (fun cA => rfl) (by decide) (by decide) (by decide) (Nat.le_of_ble_eq_true rfl) (Nat.le_of_ble_eq_true rfl) dX3_init_168 (fun b20 hbn20 _ => ?_)
  refine zz_putF (pc := 170) C in_X3_init_X3 tyX3 tyX3_ok nmX3 (ci := 3) (t := 2) rfl 20 (by decide) fl_X3_init_71 rfl rfl hmn rfl dX3_init_170 ((zU_ne (fun z => by have h9 := hI.2.1; subst z; exact Option.some_ne_none _ (h9.symm.trans hbn20))).trans hI.2.1) rfl rfl (by rw [zMl_len]; decide) ?_
  have hI := hI.ref (j := 20) rfl hbn20
  refine zz_aload_n (pc := 173) C dX3_init_173 rfl ?_
  refine zz_iconst (pc := 174) C (v := -1) (by decide) dX3_init_174 ?_
  refine zz_put (pc := 175) C in_X3_init_X3 tyX3 tyX3_ok nmX3 (ci := 3) (t := 2) rfl 21 (by decide) fl_X3_init_74 rfl rfl dX3_init_175 hI.2.1 rfl rfl (by rw [zMl_len]; decide) ?_
  have hI := hI.num (j := 21) rfl
  refine zz_aload_n (pc := 178) C dX3_init_178 rfl ?_
  refine zz_iconst (pc := 179) C (v := -1) (by decide) dX3_init_179 ?_
  refine zz_put (pc := 180) C in_X3_init_X3 tyX3 tyX3_ok nmX3 (ci := 3) (t := 2) rfl 22 (by decide) fl_X3_init_78 rfl rfl dX3_init_180 hI.2.1 rfl rfl (by rw [zMl_len]; decide) ?_
  have hI := hI.num (j := 22) rfl
  refine zz_aload_n (pc := 183) C dX3_init_183 rfl ?_
  refine zz_sipush (pc := 184) C (v := 8192) (by decide) dX3_init_184 ?_
  have hI := hI.skip (j := 23) rfl rfl
  refine zz_newarr (pc := 187) C 2 (ty := .int) (N := 8192) (x0 := (8192, .inl (fun _ => 0))) (by decide +kernel) rfl (fun _ h => h) (fun cA => rfl) (by decide) (by decide) (by decide) (Nat.le_of_ble_eq_true rfl) (Nat.le_of_ble_eq_true rfl) dX3_init_187 (fun b24 hbn24 _ => ?_)
  refine zz_putF (pc := 189) C in_X3_init_X3 tyX3 tyX3_ok nmX3 (ci := 3) (t := 2) rfl 24 (by decide) fl_X3_init_81 rfl rfl hmn rfl dX3_init_189 ((zU_ne (fun z => by have h9 := hI.2.1; subst z; exact Option.some_ne_none _ (h9.symm.trans hbn24))).trans hI.2.1) rfl rfl (by rw [zMl_len]; decide) ?_
  have hI := hI.ref (j := 24) rfl hbn24
  refine zz_aload_n (pc := 192) C dX3_init_192 rfl ?_
  refine zz_bipush (pc := 193) C (v := 41) (by decide) dX3_init_193 ?_
  have hI := hI.skip (j := 25) rfl rfl
  have hI := hI.skip (j := 26) rfl rfl
  refine zz_newarr (pc := 195) C 2 (ty := .boolean) (N := 41) (x0 := (41, .inl (fun _ => 0))) (by decide +kernel) rfl (fun _ h => h) (fun cA => rfl) (by decide) (by decide) (by decide) (Nat.le_of_ble_eq_true rfl) (Nat.le_of_ble_eq_true rfl) dX3_init_195 (fun b27 hbn27 _ => ?_)
  refine zz_putF (pc := 197) C in_X3_init_X3 tyX3 tyX3_ok nmX3 (ci := 3) (t := 2) rfl 27 (by decide) fl_X3_init_84 rfl rfl hmn rfl dX3_init_197 ((zU_ne (fun z => by have h9 := hI.2.1; subst z; exact Option.some_ne_none _ (h9.symm.trans hbn27))).trans hI.2.1) rfl rfl (by rw [zMl_len]; decide) ?_
  have hI := hI.ref (j := 27) rfl hbn27
  refine zz_aload_n (pc := 200) C dX3_init_200 rfl ?_
  refine zz_bipush (pc := 201) C (v := 41) (by decide) dX3_init_201 ?_
  refine zz_newarr (pc := 203) C 2 (ty := .boolean) (N := 41) (x0 := (41, .inl (fun _ => 0))) (by decide +kernel) rfl (fun _ h => h) (fun cA => rfl) (by decide) (by decide) (by decide) (Nat.le_of_ble_eq_true rfl) (Nat.le_of_ble_eq_true rfl) dX3_init_203 (fun b28 hbn28 _ => ?_)
  refine zz_putF (pc := 205) C in_X3_init_X3 tyX3 tyX3_ok nmX3 (ci := 3) (t := 2) rfl 28 (by decide) fl_X3_init_87 rfl rfl hmn rfl dX3_init_205 ((zU_ne (fun z => by have h9 := hI.2.1; subst z; exact Option.some_ne_none _ (h9.symm.trans hbn28))).trans hI.2.1) rfl rfl (by rw [zMl_len]; decide) ?_
  have hI := hI.ref (j := 28) rfl hbn28
  have hR := hI.done
  refine zz_aload_n (pc := 208) C dX3_init_208 rfl ?_
  refine zz_get (pc := 209) C in_X3_init_X3 (ci := 3) rfl 0 (by decide) (fl_X3_init_7) rfl dX3_init_209 hR.2.1 rfl ?_
  refine zz_iconst (pc := 212) C (v := 1) (by decide) dX3_init_212 ?_
  refine zz_iconst (pc := 213) C (v := 1) (by decide) dX3_init_213 ?_
  refine zz_mstz (pc := 214) C hR 0 (by decide) rfl dX3_init_214 (i := 1) rfl (by decide) (by first | rfl | exact zb_vp) (fun G hR => ?_)
  refine zz_aload_n (pc := 215) C dX3_init_215 rfl ?_
  refine zz_get (pc := 216) C in_X3_init_X3 (ci := 3) rfl 1 (by decide) (fl_X3_init_13) rfl dX3_init_216 hR.2.1 rfl ?_
  refine zz_iconst (pc := 219) C (v := 1) (by decide) dX3_init_219 ?_
  refine zz_iconst (pc := 220) C (v := -1) (by decide) dX3_init_220 ?_
  refine zz_mst (pc := 221) C hR 1 (by decide) rfl dX3_init_221 (i := 1) rfl (by decide) (fun G hR => ?_)
  refine zz_aload_n (pc := 222) C dX3_init_222 rfl ?_
  refine zz_get (pc := 223) C in_X3_init_X3 (ci := 3) rfl 2 (by decide) (fl_X3_init_17) rfl dX3_init_223 hR.2.1 rfl ?_
  refine zz_iconst (pc := 226) C (v := 1) (by decide) dX3_init_226 ?_
  refine zz_iconst (pc := 227) C (v := 1) (by decide) dX3_init_227 ?_
  refine zz_mst (pc := 228) C hR 2 (by decide) rfl dX3_init_228 (i := 1) rfl (by decide) (fun G hR => ?_)
  refine zz_aload_n (pc := 229) C dX3_init_229 rfl ?_
  refine zz_get (pc := 230) C in_X3_init_X3 (ci := 3) rfl 3 (by decide) (fl_X3_init_20) rfl dX3_init_230 hR.2.1 rfl ?_
  refine zz_iconst (pc := 233) C (v := 1) (by decide) dX3_init_233 ?_
  refine zz_iconst (pc := 234) C (v := 1) (by decide) dX3_init_234 ?_
  refine zz_mst (pc := 235) C hR 3 (by decide) rfl dX3_init_235 (i := 1) rfl (by decide) (fun G hR => ?_)
  refine zz_aload_n (pc := 236) C dX3_init_236 rfl ?_
  refine zz_get (pc := 237) C in_X3_init_X3 (ci := 3) rfl 18 (by decide) (fl_X3_init_65) rfl dX3_init_237 hR.2.1 rfl ?_
  refine zz_iconst (pc := 240) C (v := 1) (by decide) dX3_init_240 ?_
  refine zz_iconst (pc := 241) C (v := -1) (by decide) dX3_init_241 ?_
  refine zz_mst (pc := 242) C hR 18 (by decide) rfl dX3_init_242 (i := 1) rfl (by decide) (fun G hR => ?_)
  refine zz_aload_n (pc := 243) C dX3_init_243 rfl ?_
  refine zz_get (pc := 244) C in_X3_init_X3 (ci := 3) rfl 19 (by decide) (fl_X3_init_68) rfl dX3_init_244 hR.2.1 rfl ?_
  refine zz_iconst (pc := 247) C (v := 1) (by decide) dX3_init_247 ?_
  refine zz_iconst (pc := 248) C (v := -1) (by decide) dX3_init_248 ?_
  refine zz_mst (pc := 249) C hR 19 (by decide) rfl dX3_init_249 (i := 1) rfl (by decide) (fun G hR => ?_)
  refine zz_aload_n (pc := 250) C dX3_init_250 rfl ?_
  refine zz_get (pc := 251) C in_X3_init_X3 (ci := 3) rfl 20 (by decide) (fl_X3_init_71) rfl dX3_init_251 hR.2.1 rfl ?_
  refine zz_iconst (pc := 254) C (v := 1) (by decide) dX3_init_254 ?_
  refine zz_iconst (pc := 255) C (v := -1) (by decide) dX3_init_255 ?_
  refine zz_mst (pc := 256) C hR 20 (by decide) rfl dX3_init_256 (i := 1) rfl (by decide) (fun G hR => ?_)
  exact zz_return (pc := 257) C dX3_init_257 (Nat.le_of_ble_eq_true rfl) (Nat.le_of_ble_eq_true rfl) ⟨rfl, _, zMod.mk hR (fun _ _ => rfl) rfl ⟨0, by decide, rfl, rfl, by decide, fun i f hf => by cases i <;> cases hf⟩⟩
