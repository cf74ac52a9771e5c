/-! the reference's calls: what each throws, by its number, and what it answers -/
def zE1 (a : Prop) [Decidable a] : Int32 := if a then 1 else 0
def zE2 (a b : Prop) [Decidable a] [Decidable b] : Int32 := if a then 1 else if b then 2 else 0
def zE3 (a b c : Prop) [Decidable a] [Decidable b] [Decidable c] : Int32 := if a then 1 else if b then 2 else if c then 3 else 0
theorem zE1_1 {a : Prop} [Decidable a] (h : a) : zE1 a = 1 := if_pos h
theorem zE1_0 {a : Prop} [Decidable a] (h : ¬ a) : zE1 a = 0 := if_neg h
theorem zE1_z {a : Prop} [Decidable a] (h : zE1 a = 0) : ¬ a := fun q => by rw [zE1_1 q] at h; exact absurd h (by decide)
theorem zE2_1 {a b : Prop} [Decidable a] [Decidable b] (h : a) : zE2 a b = 1 := if_pos h
theorem zE2_2 {a b : Prop} [Decidable a] [Decidable b] (h : ¬ a) (h2 : b) : zE2 a b = 2 := by unfold zE2; rw [if_neg h, if_pos h2]
theorem zE2_0 {a b : Prop} [Decidable a] [Decidable b] (h : ¬ a) (h2 : ¬ b) : zE2 a b = 0 := by unfold zE2; rw [if_neg h, if_neg h2]
theorem zE2_z {a b : Prop} [Decidable a] [Decidable b] (h : zE2 a b = 0) : ¬ a ∧ ¬ b := by
  by_cases ha : a
  · rw [zE2_1 ha] at h; exact absurd h (by decide)
  · by_cases hb : b
    · rw [zE2_2 ha hb] at h; exact absurd h (by decide)
    · exact ⟨ha, hb⟩
theorem zE3_1 {a b c : Prop} [Decidable a] [Decidable b] [Decidable c] (h : a) : zE3 a b c = 1 := if_pos h
theorem zE3_2 {a b c : Prop} [Decidable a] [Decidable b] [Decidable c] (h : ¬ a) (h2 : b) : zE3 a b c = 2 := by unfold zE3; rw [if_neg h, if_pos h2]
theorem zE3_3 {a b c : Prop} [Decidable a] [Decidable b] [Decidable c] (h : ¬ a) (h2 : ¬ b) (h3 : c) : zE3 a b c = 3 := by unfold zE3; rw [if_neg h, if_neg h2, if_pos h3]
theorem zE3_0 {a b c : Prop} [Decidable a] [Decidable b] [Decidable c] (h : ¬ a) (h2 : ¬ b) (h3 : ¬ c) : zE3 a b c = 0 := by unfold zE3; rw [if_neg h, if_neg h2, if_neg h3]
theorem zE3_z {a b c : Prop} [Decidable a] [Decidable b] [Decidable c] (h : zE3 a b c = 0) : ¬ a ∧ ¬ b ∧ ¬ c := by
  by_cases ha : a
  · rw [zE3_1 ha] at h; exact absurd h (by decide)
  · by_cases hb : b
    · rw [zE3_2 ha hb] at h; exact absurd h (by decide)
    · by_cases hc : c
      · rw [zE3_3 ha hb hc] at h; exact absurd h (by decide)
      · exact ⟨ha, hb, hc⟩
theorem zbn {a : Prop} [Decidable a] (h : ¬ zb a ≠ 0) : ¬ a := zb_eq.mp (Classical.not_not.mp h)
theorem zbp {a : Prop} [Decidable a] (h : ¬ zb a = 0) : a := zb_ne.mp h
theorem zw0 {w : Int32} (h : zb (0 < w) = 0) (hw : 0 < w) : False := zb_eq.mp h hw
theorem zw1 {w : Int32} (h : ¬ zb (0 < w) ≠ 0) (hw : 0 < w) : False := zbn h hw
theorem z01 (h : ¬ zb ((0 : Int32) < 0) = 0) : False := h rfl
theorem z02 (h : zb ((0 : Int32) < 0) ≠ 0) : False := h rfl
def zMix (σ t : zS) : zS := fun f => if f ≤ 22 then σ f else t f
theorem zMix_of {r σ : zS} (h : zAg r σ) : r = zMix σ r := by
  funext f
  unfold zMix
  split
  · exact h f (by assumption)
  · rfl
abbrev zHere (σ : zS) (x : Int32) : Prop := 0 < x ∧ x ≤ 40 ∧ σ 0 (pn x) ≠ 0
abbrev zRunN (σ : zS) (k : Nat) : Prop := σ 4 k = 0 ∧ σ 5 k = 0 ∧ σ 6 k = 0
abbrev zNot (σ : zS) (k : Nat) : Prop := k = 1 ∨ ¬ zRunN σ k
theorem zHere.at {σ : zS} {x : Int32} (h : zHere σ x) : x = nI (pn x) ∧ 1 ≤ pn x ∧ pn x < 41 := by
  have h1 := zin40 (Int32.not_le.mpr h.1) (Int32.not_lt.mpr h.2.1)
  refine ⟨h1.1, ?_, h1.2⟩
  have h0 : pn x ≠ 0 := fun q => by
    have := h1.1
    rw [q] at this
    have h2 := h.1
    rw [this] at h2
    exact absurd h2 (by decide)
  omega
theorem zIn40 {x : Int32} (h1 : ¬ x < 1) (h2 : ¬ (40 : Int32) < x) : x = nI (pn x) ∧ 1 ≤ pn x ∧ pn x < 41 := by
  have h0 : ¬ x ≤ 0 := fun q => h1 (Int32.lt_of_le_of_lt q (by decide))
  have h3 := zin40 h0 h2
  refine ⟨h3.1, ?_, h3.2⟩
  have h4 : pn x ≠ 0 := fun q => by
    have := h3.1
    rw [q] at this
    exact h1 (by rw [this]; decide)
  omega
theorem zMod.mk {B : zG} {y : Nat} {ma : Nat → Nat} {r σ : zS} {q : List zEv} {th : Int32} {G : zG} (hR : zModR B y ma r G) (h : zAg r σ) (ht : r 23 0 = th) (hr : zRing r q) : zMod B y ma σ q th G := ⟨r, hR, h, ht, hr⟩
theorem zMod.ok {B : zG} {y : Nat} {ma : Nat → Nat} {r σ τ : zS} {q : List zEv} {th : Int32} {G : zG} (hz : th = 0) (hR : zModR B y ma r G) (h : zAg r σ) (ht : r 23 0 = 0) (hr : zRing r q) : zMod B y ma (if th = 0 then σ else τ) q th G := by
  rw [if_pos hz]; exact ⟨r, hR, h, by rw [ht, hz], hr⟩
theorem zMod.no {B : zG} {y : Nat} {ma : Nat → Nat} {r σ τ : zS} {q : List zEv} {th w : Int32} {G : zG} (hw : th = w) (h0 : 0 < w) (hR : zModR B y ma r G) (h : zAg r τ) (ht : r 23 0 = w) (hr : zRing r q) : zMod B y ma (if th = 0 then σ else τ) q th G := by
  rw [if_neg (by rw [hw]; exact fun z => absurd h0 (by rw [z]; decide))]; exact ⟨r, hR, h, by rw [ht, hw], hr⟩
theorem zvok {th x y : Int32} (hz : th = 0) (hx : x = y) : some (Value.int x) = some (Value.int (if th = 0 then y else 0)) := by rw [if_pos hz, hx]
theorem zvno {th y w : Int32} (hw : th = w) (h0 : 0 < w) : some (Value.int 0) = some (Value.int (if th = 0 then y else 0)) := by rw [if_neg (by rw [hw]; exact fun z => absurd h0 (by rw [z]; decide))]
theorem c_xcannot (l : Launch) (D : va_G) {B G : zG} {y : Nat} {ma : Nat → Nat} {r : zS} {x : Int32} (hR : zModR B y ma r G) (hx : x = nI (pn x) ∧ 1 ≤ pn x ∧ pn x < 41) : zMet D l yX3_cannot wsX3_cannot ({ frames := 1, cells := 0, slots := 0, locals := 21 } : Room) [.ref y, .int x] G (fun v G9 => v = some (.int (zb (zNot r (pn x)))) ∧ G9 = G) := by
  have h := c_X3_cannot l D hR (k := pn x) hx.2.2
  rw [← hx.1] at h
  exact h
theorem c_xrun (l : Launch) (D : va_G) {B G : zG} {y : Nat} {ma : Nat → Nat} {r : zS} {x : Int32} (hR : zModR B y ma r G) (hx : x = nI (pn x) ∧ 1 ≤ pn x ∧ pn x < 41) : zMet D l yX3_isRunning wsX3_isRunning ({ frames := 0, cells := 0, slots := 0, locals := 0 } : Room) [.ref y, .int x] G (fun v G9 => v = some (.int (zb (zRunN r (pn x)))) ∧ G9 = G) := by
  have h := c_X3_isRunning l D hR (k := pn x) hx.2.2
  rw [← hx.1] at h
  exact h

set_option maxHeartbeats 4000000 in
set_option maxRecDepth 100000 in
theorem c_X3_of (l : Launch) (D : va_G) {B G : zG} {y : Nat} {ma : Nat → Nat} {r : zS} {σ : zS} {k : Nat} {x : Int32} (hR : zModR B y ma r G) (hag : zAg r σ) (hring : zRing r []) (hk : k < 29 ∧ mnum k = false) (hkb : mbool k = false) (hkm : 41 ≤ mlen k) (h22 : k ≤ 22) : zMet D l yX3_of wsX3_of ({ frames := 1, cells := 0, slots := 0, locals := 21 } : Room) [.ref y, .ref (ma k), .int x] G (fun v G9 => v = some (.int (if zE1 (¬ zHere σ x) = 0 then σ k (pn x) else 0)) ∧ zMod B y ma (if zE1 (¬ zHere σ x) = 0 then σ else σ) [] (zE1 (¬ zHere σ x)) G9) := by
  refine zMet_of (cc := cX3_of) (maxL := 3) (ret := (some .int)) (by decide) rfl (Nat.le_of_ble_eq_true rfl) ?_
  intro p e s m args below meth c C hmn
  obtain ⟨t9, rfl⟩ : ∃ t9, r = zMix σ t9 := ⟨r, zMix_of hag⟩
  have k0 : zE1 (¬ zHere σ x) = 0 → zV p l e ({ frames := 1, cells := 0, slots := 0, locals := 21 } : Room) s m args below meth c D (zA G s.heap.size) 0 0 (zZ below D G (fun v G9 => v = some (.int (if zE1 (¬ zHere σ x) = 0 then σ k (pn x) else 0)) ∧ zMod B y ma (if zE1 (¬ zHere σ x) = 0 then σ else σ) [] (zE1 (¬ zHere σ x)) G9) args s ({ frames := 1, cells := 0, slots := 0, locals := 21 } : Room)) G 14 [some (.ref y), some (.ref (ma k)), some (.int x)] [.int 0, .ref y] := by
    intro hT
    have hx : zHere σ x := Classical.not_not.mp (zE1_z hT)
    refine zz_callV (pc := 14) C (c_X3_fails l D hR (w := 0)) gX3_of_X3_fails rfl 1 (by decide +kernel) ⟨Nat.le_of_ble_eq_true rfl, Nat.le_of_ble_eq_true rfl⟩ hR.2.1 (ci := 3) rfl rfl rfl dX3_of_14 rfl (Nat.le_of_ble_eq_true rfl) rfl ⟨Nat.le_of_ble_eq_true rfl, Nat.le_of_ble_eq_true rfl⟩ ?_
    rintro v G9 ⟨rfl, hR⟩
    have hag : zAg (zu (zMix σ t9) 23 0 0) σ := zAg_off hag (by decide)
    have hring : zRing (zu (zMix σ t9) 23 0 0) [] := hring.ag rfl rfl rfl
    have h23 : (zu (zMix σ t9) 23 0 0) 23 0 = 0 := zu_self
    refine zz_if_eq (pc := 17) C (tgt := 24) dX3_of_17 (by decide) (fun hc17 => ?_) (fun hc17 => ?_)
    · refine zz_aload_n (pc := 24) C dX3_of_24 rfl ?_
      refine zz_iload_n (pc := 25) C dX3_of_25 rfl ?_
      refine zz_mld (pc := 26) C hR k hk hkb dX3_of_26 hx.at.1 (by have := hx.at.2.2; omega) ?_
      exact zz_ireturn (pc := 27) C dX3_of_27 rfl (Nat.le_refl _) (Nat.le_refl _) ⟨zvok hT (congrFun (hag k h22) _), zMod.ok hT hR hag h23 hring⟩
    · exact (z01 hc17).elim
  have k1 : zE1 (¬ zHere σ x) = 1 → zV p l e ({ frames := 1, cells := 0, slots := 0, locals := 21 } : Room) s m args below meth c D (zA G s.heap.size) 0 0 (zZ below D G (fun v G9 => v = some (.int (if zE1 (¬ zHere σ x) = 0 then σ k (pn x) else 0)) ∧ zMod B y ma (if zE1 (¬ zHere σ x) = 0 then σ else σ) [] (zE1 (¬ zHere σ x)) G9) args s ({ frames := 1, cells := 0, slots := 0, locals := 21 } : Room)) G 14 [some (.ref y), some (.ref (ma k)), some (.int x)] [.int 1, .ref y] := by
    intro hT
    refine zz_callV (pc := 14) C (c_X3_fails l D hR (w := 1)) gX3_of_X3_fails rfl 1 (by decide +kernel) ⟨Nat.le_of_ble_eq_true rfl, Nat.le_of_ble_eq_true rfl⟩ hR.2.1 (ci := 3) rfl rfl rfl dX3_of_14 rfl (Nat.le_of_ble_eq_true rfl) rfl ⟨Nat.le_of_ble_eq_true rfl, Nat.le_of_ble_eq_true rfl⟩ ?_
    rintro v G9 ⟨rfl, hR⟩
    have hag : zAg (zu (zMix σ t9) 23 0 1) σ := zAg_off hag (by decide)
    have hring : zRing (zu (zMix σ t9) 23 0 1) [] := hring.ag rfl rfl rfl
    have h23 : (zu (zMix σ t9) 23 0 1) 23 0 = 1 := zu_self
    refine zz_if_eq (pc := 17) C (tgt := 24) dX3_of_17 (by decide) (fun hc17 => ?_) (fun hc17 => ?_)
    · exact (zw0 hc17 (by decide)).elim
    · refine zz_iconst (pc := 20) C (v := 0) (by decide) dX3_of_20 ?_
      refine zz_goto (pc := 21) C (tgt := 27) dX3_of_21 (by decide) ?_
      exact zz_ireturn (pc := 27) C dX3_of_27 rfl (Nat.le_refl _) (Nat.le_refl _) ⟨zvno hT (by decide), zMod.no hT (by decide) hR hag h23 hring⟩
  refine zz_aload_n (pc := 0) C dX3_of_0 rfl ?_
  refine zz_aload_n (pc := 1) C dX3_of_1 rfl ?_
  refine zz_iload_n (pc := 2) C dX3_of_2 rfl ?_
  refine zz_callV (pc := 3) C (c_X3_is l D hR (x := x)) gX3_of_X3_is rfl 1 (by decide +kernel) ⟨Nat.le_of_ble_eq_true rfl, Nat.le_of_ble_eq_true rfl⟩ hR.2.1 (ci := 3) rfl rfl rfl dX3_of_3 rfl (Nat.le_of_ble_eq_true rfl) rfl ⟨Nat.le_of_ble_eq_true rfl, Nat.le_of_ble_eq_true rfl⟩ ?_
  rintro v G9 ⟨rfl, rfl⟩
  refine zz_if_eq (pc := 6) C (tgt := 13) dX3_of_6 (by decide) (fun hc6 => ?_) (fun hc6 => ?_)
  · refine zz_iconst (pc := 13) C (v := 1) (by decide) dX3_of_13 ?_
    first
      | exact k0 (zE1_0 (fun z => z (zbp hc6)))
      | exact k1 (zE1_1 (zb_eq.mp hc6))
  · refine zz_iconst (pc := 9) C (v := 0) (by decide) dX3_of_9 ?_
    refine zz_goto (pc := 10) C (tgt := 14) dX3_of_10 (by decide) ?_
    first
      | exact k0 (zE1_0 (fun z => z (zbp hc6)))
      | exact k1 (zE1_1 (zb_eq.mp hc6))
theorem fl_X3_parent_13 : Cond.fieldLink RX3 13 "SignalpostModel" "parent" "[I" ∈ wsX3_parent := by decide +kernel
theorem in_X3_parent_X3 : ∀ w ∈ u_ws RX3 TX3 29, w ∈ wsX3_parent := by decide +kernel
set_option maxHeartbeats 4000000 in
set_option maxRecDepth 100000 in
theorem c_X3_parent (l : Launch) (D : va_G) {B G : zG} {y : Nat} {ma : Nat → Nat} {r : zS} {σ : zS} {x : Int32} (hR : zModR B y ma r G) (hag : zAg r σ) (hring : zRing r []) : zMet D l yX3_parent wsX3_parent ({ frames := 2, cells := 0, slots := 0, locals := 43 } : Room) [.ref y, .int x] G (fun v G9 => v = some (.int (if zE1 (¬ zHere σ x) = 0 then σ 1 (pn x) else 0)) ∧ zMod B y ma (if zE1 (¬ zHere σ x) = 0 then σ else σ) [] (zE1 (¬ zHere σ x)) G9) := by
  refine zMet_of (cc := cX3_parent) (maxL := 2) (ret := (some .int)) (by decide) rfl (Nat.le_of_ble_eq_true rfl) ?_
  intro p e s m args below meth c C hmn
  refine zz_aload_n (pc := 0) C dX3_parent_0 rfl ?_
  refine zz_aload_n (pc := 1) C dX3_parent_1 rfl ?_
  refine zz_get (pc := 2) C in_X3_parent_X3 (ci := 3) rfl 1 (by decide) (fl_X3_parent_13) rfl dX3_parent_2 hR.2.1 rfl ?_
  refine zz_iload_n (pc := 5) C dX3_parent_5 rfl ?_
  refine zz_callV (pc := 6) C (c_X3_of l D hR (x := x) (k := 1) hag hring (by decide) rfl (by decide) (by decide)) gX3_parent_X3_of rfl 2 (by decide +kernel) ⟨Nat.le_of_ble_eq_true rfl, Nat.le_of_ble_eq_true rfl⟩ hR.2.1 (ci := 3) rfl rfl rfl dX3_parent_6 rfl (Nat.le_of_ble_eq_true rfl) rfl ⟨Nat.le_of_ble_eq_true rfl, Nat.le_of_ble_eq_true rfl⟩ ?_
  rintro v G9 ⟨rfl, hm⟩
  exact zz_ireturn (pc := 9) C dX3_parent_9 rfl (Nat.le_refl _) (Nat.le_refl _) ⟨rfl, hm⟩
theorem fl_X3_group_17 : Cond.fieldLink RX3 17 "SignalpostModel" "group" "[I" ∈ wsX3_group := by decide +kernel
theorem in_X3_group_X3 : ∀ w ∈ u_ws RX3 TX3 29, w ∈ wsX3_group := by decide +kernel
set_option maxHeartbeats 4000000 in
set_option maxRecDepth 100000 in
theorem c_X3_group (l : Launch) (D : va_G) {B G : zG} {y : Nat} {ma : Nat → Nat} {r : zS} {σ : zS} {x : Int32} (hR : zModR B y ma r G) (hag : zAg r σ) (hring : zRing r []) : zMet D l yX3_group wsX3_group ({ frames := 2, cells := 0, slots := 0, locals := 43 } : Room) [.ref y, .int x] G (fun v G9 => v = some (.int (if zE1 (¬ zHere σ x) = 0 then σ 2 (pn x) else 0)) ∧ zMod B y ma (if zE1 (¬ zHere σ x) = 0 then σ else σ) [] (zE1 (¬ zHere σ x)) G9) := by
  refine zMet_of (cc := cX3_group) (maxL := 2) (ret := (some .int)) (by decide) rfl (Nat.le_of_ble_eq_true rfl) ?_
  intro p e s m args below meth c C hmn
  refine zz_aload_n (pc := 0) C dX3_group_0 rfl ?_
  refine zz_aload_n (pc := 1) C dX3_group_1 rfl ?_
  refine zz_get (pc := 2) C in_X3_group_X3 (ci := 3) rfl 2 (by decide) (fl_X3_group_17) rfl dX3_group_2 hR.2.1 rfl ?_
  refine zz_iload_n (pc := 5) C dX3_group_5 rfl ?_
  refine zz_callV (pc := 6) C (c_X3_of l D hR (x := x) (k := 2) hag hring (by decide) rfl (by decide) (by decide)) gX3_group_X3_of rfl 2 (by decide +kernel) ⟨Nat.le_of_ble_eq_true rfl, Nat.le_of_ble_eq_true rfl⟩ hR.2.1 (ci := 3) rfl rfl rfl dX3_group_6 rfl (Nat.le_of_ble_eq_true rfl) rfl ⟨Nat.le_of_ble_eq_true rfl, Nat.le_of_ble_eq_true rfl⟩ ?_
  rintro v G9 ⟨rfl, hm⟩
  exact zz_ireturn (pc := 9) C dX3_group_9 rfl (Nat.le_refl _) (Nat.le_refl _) ⟨rfl, hm⟩
theorem fl_X3_session_20 : Cond.fieldLink RX3 20 "SignalpostModel" "session" "[I" ∈ wsX3_session := by decide +kernel
theorem in_X3_session_X3 : ∀ w ∈ u_ws RX3 TX3 29, w ∈ wsX3_session := by decide +kernel
set_option maxHeartbeats 4000000 in
set_option maxRecDepth 100000 in
theorem c_X3_session (l : Launch) (D : va_G) {B G : zG} {y : Nat} {ma : Nat → Nat} {r : zS} {σ : zS} {x : Int32} (hR : zModR B y ma r G) (hag : zAg r σ) (hring : zRing r []) : zMet D l yX3_session wsX3_session ({ frames := 2, cells := 0, slots := 0, locals := 43 } : Room) [.ref y, .int x] G (fun v G9 => v = some (.int (if zE1 (¬ zHere σ x) = 0 then σ 3 (pn x) else 0)) ∧ zMod B y ma (if zE1 (¬ zHere σ x) = 0 then σ else σ) [] (zE1 (¬ zHere σ x)) G9) := by
  refine zMet_of (cc := cX3_session) (maxL := 2) (ret := (some .int)) (by decide) rfl (Nat.le_of_ble_eq_true rfl) ?_
  intro p e s m args below meth c C hmn
  refine zz_aload_n (pc := 0) C dX3_session_0 rfl ?_
  refine zz_aload_n (pc := 1) C dX3_session_1 rfl ?_
  refine zz_get (pc := 2) C in_X3_session_X3 (ci := 3) rfl 3 (by decide) (fl_X3_session_20) rfl dX3_session_2 hR.2.1 rfl ?_
  refine zz_iload_n (pc := 5) C dX3_session_5 rfl ?_
  refine zz_callV (pc := 6) C (c_X3_of l D hR (x := x) (k := 3) hag hring (by decide) rfl (by decide) (by decide)) gX3_session_X3_of rfl 2 (by decide +kernel) ⟨Nat.le_of_ble_eq_true rfl, Nat.le_of_ble_eq_true rfl⟩ hR.2.1 (ci := 3) rfl rfl rfl dX3_session_6 rfl (Nat.le_of_ble_eq_true rfl) rfl ⟨Nat.le_of_ble_eq_true rfl, Nat.le_of_ble_eq_true rfl⟩ ?_
  rintro v G9 ⟨rfl, hm⟩
  exact zz_ireturn (pc := 9) C dX3_session_9 rfl (Nat.le_refl _) (Nat.le_refl _) ⟨rfl, hm⟩
theorem fl_X3_pending_44 : Cond.fieldLink RX3 44 "SignalpostModel" "pending" "[I" ∈ wsX3_pending := by decide +kernel
theorem in_X3_pending_X3 : ∀ w ∈ u_ws RX3 TX3 29, w ∈ wsX3_pending := by decide +kernel
set_option maxHeartbeats 4000000 in
set_option maxRecDepth 100000 in
theorem c_X3_pending (l : Launch) (D : va_G) {B G : zG} {y : Nat} {ma : Nat → Nat} {r : zS} {σ : zS} {x : Int32} (hR : zModR B y ma r G) (hag : zAg r σ) (hring : zRing r []) : zMet D l yX3_pending wsX3_pending ({ frames := 2, cells := 0, slots := 0, locals := 43 } : Room) [.ref y, .int x] G (fun v G9 => v = some (.int (if zE1 (¬ zHere σ x) = 0 then σ 11 (pn x) else 0)) ∧ zMod B y ma (if zE1 (¬ zHere σ x) = 0 then σ else σ) [] (zE1 (¬ zHere σ x)) G9) := by
  refine zMet_of (cc := cX3_pending) (maxL := 2) (ret := (some .int)) (by decide) rfl (Nat.le_of_ble_eq_true rfl) ?_
  intro p e s m args below meth c C hmn
  refine zz_aload_n (pc := 0) C dX3_pending_0 rfl ?_
  refine zz_aload_n (pc := 1) C dX3_pending_1 rfl ?_
  refine zz_get (pc := 2) C in_X3_pending_X3 (ci := 3) rfl 11 (by decide) (fl_X3_pending_44) rfl dX3_pending_2 hR.2.1 rfl ?_
  refine zz_iload_n (pc := 5) C dX3_pending_5 rfl ?_
  refine zz_callV (pc := 6) C (c_X3_of l D hR (x := x) (k := 11) hag hring (by decide) rfl (by decide) (by decide)) gX3_pending_X3_of rfl 2 (by decide +kernel) ⟨Nat.le_of_ble_eq_true rfl, Nat.le_of_ble_eq_true rfl⟩ hR.2.1 (ci := 3) rfl rfl rfl dX3_pending_6 rfl (Nat.le_of_ble_eq_true rfl) rfl ⟨Nat.le_of_ble_eq_true rfl, Nat.le_of_ble_eq_true rfl⟩ ?_
  rintro v G9 ⟨rfl, hm⟩
  exact zz_ireturn (pc := 9) C dX3_pending_9 rfl (Nat.le_refl _) (Nat.le_refl _) ⟨rfl, hm⟩
theorem fl_X3_caught_47 : Cond.fieldLink RX3 47 "SignalpostModel" "caught" "[I" ∈ wsX3_caught := by decide +kernel
theorem in_X3_caught_X3 : ∀ w ∈ u_ws RX3 TX3 29, w ∈ wsX3_caught := by decide +kernel
set_option maxHeartbeats 4000000 in
set_option maxRecDepth 100000 in
theorem c_X3_caught (l : Launch) (D : va_G) {B G : zG} {y : Nat} {ma : Nat → Nat} {r : zS} {σ : zS} {x : Int32} (hR : zModR B y ma r G) (hag : zAg r σ) (hring : zRing r []) : zMet D l yX3_caught wsX3_caught ({ frames := 2, cells := 0, slots := 0, locals := 43 } : Room) [.ref y, .int x] G (fun v G9 => v = some (.int (if zE1 (¬ zHere σ x) = 0 then σ 12 (pn x) else 0)) ∧ zMod B y ma (if zE1 (¬ zHere σ x) = 0 then σ else σ) [] (zE1 (¬ zHere σ x)) G9) := by
  refine zMet_of (cc := cX3_caught) (maxL := 2) (ret := (some .int)) (by decide) rfl (Nat.le_of_ble_eq_true rfl) ?_
  intro p e s m args below meth c C hmn
  refine zz_aload_n (pc := 0) C dX3_caught_0 rfl ?_
  refine zz_aload_n (pc := 1) C dX3_caught_1 rfl ?_
  refine zz_get (pc := 2) C in_X3_caught_X3 (ci := 3) rfl 12 (by decide) (fl_X3_caught_47) rfl dX3_caught_2 hR.2.1 rfl ?_
  refine zz_iload_n (pc := 5) C dX3_caught_5 rfl ?_
  refine zz_callV (pc := 6) C (c_X3_of l D hR (x := x) (k := 12) hag hring (by decide) rfl (by decide) (by decide)) gX3_caught_X3_of rfl 2 (by decide +kernel) ⟨Nat.le_of_ble_eq_true rfl, Nat.le_of_ble_eq_true rfl⟩ hR.2.1 (ci := 3) rfl rfl rfl dX3_caught_6 rfl (Nat.le_of_ble_eq_true rfl) rfl ⟨Nat.le_of_ble_eq_true rfl, Nat.le_of_ble_eq_true rfl⟩ ?_
  rintro v G9 ⟨rfl, hm⟩
  exact zz_ireturn (pc := 9) C dX3_caught_9 rfl (Nat.le_refl _) (Nat.le_refl _) ⟨rfl, hm⟩
theorem fl_X3_waitResult_65 : Cond.fieldLink RX3 65 "SignalpostModel" "waitResult" "[I" ∈ wsX3_waitResult := by decide +kernel
theorem in_X3_waitResult_X3 : ∀ w ∈ u_ws RX3 TX3 29, w ∈ wsX3_waitResult := by decide +kernel
set_option maxHeartbeats 4000000 in
set_option maxRecDepth 100000 in
theorem c_X3_waitResult (l : Launch) (D : va_G) {B G : zG} {y : Nat} {ma : Nat → Nat} {r : zS} {σ : zS} {x : Int32} (hR : zModR B y ma r G) (hag : zAg r σ) (hring : zRing r []) : zMet D l yX3_waitResult wsX3_waitResult ({ frames := 2, cells := 0, slots := 0, locals := 43 } : Room) [.ref y, .int x] G (fun v G9 => v = some (.int (if zE1 (¬ zHere σ x) = 0 then σ 18 (pn x) else 0)) ∧ zMod B y ma (if zE1 (¬ zHere σ x) = 0 then σ else σ) [] (zE1 (¬ zHere σ x)) G9) := by
  refine zMet_of (cc := cX3_waitResult) (maxL := 2) (ret := (some .int)) (by decide) rfl (Nat.le_of_ble_eq_true rfl) ?_
  intro p e s m args below meth c C hmn
  refine zz_aload_n (pc := 0) C dX3_waitResult_0 rfl ?_
  refine zz_aload_n (pc := 1) C dX3_waitResult_1 rfl ?_
  refine zz_get (pc := 2) C in_X3_waitResult_X3 (ci := 3) rfl 18 (by decide) (fl_X3_waitResult_65) rfl dX3_waitResult_2 hR.2.1 rfl ?_
  refine zz_iload_n (pc := 5) C dX3_waitResult_5 rfl ?_
  refine zz_callV (pc := 6) C (c_X3_of l D hR (x := x) (k := 18) hag hring (by decide) rfl (by decide) (by decide)) gX3_waitResult_X3_of rfl 2 (by decide +kernel) ⟨Nat.le_of_ble_eq_true rfl, Nat.le_of_ble_eq_true rfl⟩ hR.2.1 (ci := 3) rfl rfl rfl dX3_waitResult_6 rfl (Nat.le_of_ble_eq_true rfl) rfl ⟨Nat.le_of_ble_eq_true rfl, Nat.le_of_ble_eq_true rfl⟩ ?_
  rintro v G9 ⟨rfl, hm⟩
  exact zz_ireturn (pc := 9) C dX3_waitResult_9 rfl (Nat.le_refl _) (Nat.le_refl _) ⟨rfl, hm⟩
theorem fl_X3_reportedChild_68 : Cond.fieldLink RX3 68 "SignalpostModel" "reported" "[I" ∈ wsX3_reportedChild := by decide +kernel
theorem in_X3_reportedChild_X3 : ∀ w ∈ u_ws RX3 TX3 29, w ∈ wsX3_reportedChild := by decide +kernel
set_option maxHeartbeats 4000000 in
set_option maxRecDepth 100000 in
theorem c_X3_reportedChild (l : Launch) (D : va_G) {B G : zG} {y : Nat} {ma : Nat → Nat} {r : zS} {σ : zS} {x : Int32} (hR : zModR B y ma r G) (hag : zAg r σ) (hring : zRing r []) : zMet D l yX3_reportedChild wsX3_reportedChild ({ frames := 2, cells := 0, slots := 0, locals := 43 } : Room) [.ref y, .int x] G (fun v G9 => v = some (.int (if zE1 (¬ zHere σ x) = 0 then σ 19 (pn x) else 0)) ∧ zMod B y ma (if zE1 (¬ zHere σ x) = 0 then σ else σ) [] (zE1 (¬ zHere σ x)) G9) := by
  refine zMet_of (cc := cX3_reportedChild) (maxL := 2) (ret := (some .int)) (by decide) rfl (Nat.le_of_ble_eq_true rfl) ?_
  intro p e s m args below meth c C hmn
  refine zz_aload_n (pc := 0) C dX3_reportedChild_0 rfl ?_
  refine zz_aload_n (pc := 1) C dX3_reportedChild_1 rfl ?_
  refine zz_get (pc := 2) C in_X3_reportedChild_X3 (ci := 3) rfl 19 (by decide) (fl_X3_reportedChild_68) rfl dX3_reportedChild_2 hR.2.1 rfl ?_
  refine zz_iload_n (pc := 5) C dX3_reportedChild_5 rfl ?_
  refine zz_callV (pc := 6) C (c_X3_of l D hR (x := x) (k := 19) hag hring (by decide) rfl (by decide) (by decide)) gX3_reportedChild_X3_of rfl 2 (by decide +kernel) ⟨Nat.le_of_ble_eq_true rfl, Nat.le_of_ble_eq_true rfl⟩ hR.2.1 (ci := 3) rfl rfl rfl dX3_reportedChild_6 rfl (Nat.le_of_ble_eq_true rfl) rfl ⟨Nat.le_of_ble_eq_true rfl, Nat.le_of_ble_eq_true rfl⟩ ?_
  rintro v G9 ⟨rfl, hm⟩
  exact zz_ireturn (pc := 9) C dX3_reportedChild_9 rfl (Nat.le_refl _) (Nat.le_refl _) ⟨rfl, hm⟩
theorem fl_X3_reportedValue_71 : Cond.fieldLink RX3 71 "SignalpostModel" "reportedValue" "[I" ∈ wsX3_reportedValue := by decide +kernel
theorem in_X3_reportedValue_X3 : ∀ w ∈ u_ws RX3 TX3 29, w ∈ wsX3_reportedValue := by decide +kernel
set_option maxHeartbeats 4000000 in
set_option maxRecDepth 100000 in
theorem c_X3_reportedValue (l : Launch) (D : va_G) {B G : zG} {y : Nat} {ma : Nat → Nat} {r : zS} {σ : zS} {x : Int32} (hR : zModR B y ma r G) (hag : zAg r σ) (hring : zRing r []) : zMet D l yX3_reportedValue wsX3_reportedValue ({ frames := 2, cells := 0, slots := 0, locals := 43 } : Room) [.ref y, .int x] G (fun v G9 => v = some (.int (if zE1 (¬ zHere σ x) = 0 then σ 20 (pn x) else 0)) ∧ zMod B y ma (if zE1 (¬ zHere σ x) = 0 then σ else σ) [] (zE1 (¬ zHere σ x)) G9) := by
  refine zMet_of (cc := cX3_reportedValue) (maxL := 2) (ret := (some .int)) (by decide) rfl (Nat.le_of_ble_eq_true rfl) ?_
  intro p e s m args below meth c C hmn
  refine zz_aload_n (pc := 0) C dX3_reportedValue_0 rfl ?_
  refine zz_aload_n (pc := 1) C dX3_reportedValue_1 rfl ?_
  refine zz_get (pc := 2) C in_X3_reportedValue_X3 (ci := 3) rfl 20 (by decide) (fl_X3_reportedValue_71) rfl dX3_reportedValue_2 hR.2.1 rfl ?_
  refine zz_iload_n (pc := 5) C dX3_reportedValue_5 rfl ?_
  refine zz_callV (pc := 6) C (c_X3_of l D hR (x := x) (k := 20) hag hring (by decide) rfl (by decide) (by decide)) gX3_reportedValue_X3_of rfl 2 (by decide +kernel) ⟨Nat.le_of_ble_eq_true rfl, Nat.le_of_ble_eq_true rfl⟩ hR.2.1 (ci := 3) rfl rfl rfl dX3_reportedValue_6 rfl (Nat.le_of_ble_eq_true rfl) rfl ⟨Nat.le_of_ble_eq_true rfl, Nat.le_of_ble_eq_true rfl⟩ ?_
  rintro v G9 ⟨rfl, hm⟩
  exact zz_ireturn (pc := 9) C dX3_reportedValue_9 rfl (Nat.le_refl _) (Nat.le_refl _) ⟨rfl, hm⟩
theorem fl_X3_terminalSession_74 : Cond.fieldLink RX3 74 "SignalpostModel" "terminal" "I" ∈ wsX3_terminalSession := by decide +kernel
theorem in_X3_terminalSession_X3 : ∀ w ∈ u_ws RX3 TX3 29, w ∈ wsX3_terminalSession := by decide +kernel
set_option maxHeartbeats 4000000 in
set_option maxRecDepth 100000 in
theorem c_X3_terminalSession (l : Launch) (D : va_G) {B G : zG} {y : Nat} {ma : Nat → Nat} {r : zS} {σ : zS} (hR : zModR B y ma r G) (hag : zAg r σ) (hring : zRing r []) : zMet D l yX3_terminalSession wsX3_terminalSession ({ frames := 1, cells := 0, slots := 0, locals := 21 } : Room) [.ref y] G (fun v G9 => v = some (.int (σ 21 0)) ∧ zMod B y ma σ [] 0 G9) := by
  refine zMet_of (cc := cX3_terminalSession) (maxL := 1) (ret := (some .int)) (by decide) rfl (Nat.le_of_ble_eq_true rfl) ?_
  intro p e s m args below meth c C hmn
  refine zz_aload_n (pc := 0) C dX3_terminalSession_0 rfl ?_
  refine zz_aload_n (pc := 1) C dX3_terminalSession_1 rfl ?_
  refine zz_get (pc := 2) C in_X3_terminalSession_X3 (ci := 3) rfl 21 (by decide) (fl_X3_terminalSession_74) rfl dX3_terminalSession_2 hR.2.1 rfl ?_
  refine zz_callV (pc := 5) C (c_X3_tells l D hR) gX3_terminalSession_X3_tells rfl 1 (by decide +kernel) ⟨Nat.le_of_ble_eq_true rfl, Nat.le_of_ble_eq_true rfl⟩ hR.2.1 (ci := 3) rfl rfl rfl dX3_terminalSession_5 rfl (Nat.le_of_ble_eq_true rfl) rfl ⟨Nat.le_of_ble_eq_true rfl, Nat.le_of_ble_eq_true rfl⟩ ?_
  rintro v G9 ⟨rfl, hm⟩
  exact zz_ireturn (pc := 8) C dX3_terminalSession_8 rfl (Nat.le_refl _) (Nat.le_refl _) ⟨zvi (congrFun (hag 21 (by decide)) 0), zMod.mk hm (zAg_off hag (by decide)) zu_self (hring.ag rfl rfl rfl)⟩
theorem fl_X3_foreground_78 : Cond.fieldLink RX3 78 "SignalpostModel" "foreground" "I" ∈ wsX3_foreground := by decide +kernel
theorem in_X3_foreground_X3 : ∀ w ∈ u_ws RX3 TX3 29, w ∈ wsX3_foreground := by decide +kernel
set_option maxHeartbeats 4000000 in
set_option maxRecDepth 100000 in
theorem c_X3_foreground (l : Launch) (D : va_G) {B G : zG} {y : Nat} {ma : Nat → Nat} {r : zS} {σ : zS} (hR : zModR B y ma r G) (hag : zAg r σ) (hring : zRing r []) : zMet D l yX3_foreground wsX3_foreground ({ frames := 1, cells := 0, slots := 0, locals := 21 } : Room) [.ref y] G (fun v G9 => v = some (.int (σ 22 0)) ∧ zMod B y ma σ [] 0 G9) := by
  refine zMet_of (cc := cX3_foreground) (maxL := 1) (ret := (some .int)) (by decide) rfl (Nat.le_of_ble_eq_true rfl) ?_
  intro p e s m args below meth c C hmn
  refine zz_aload_n (pc := 0) C dX3_foreground_0 rfl ?_
  refine zz_aload_n (pc := 1) C dX3_foreground_1 rfl ?_
  refine zz_get (pc := 2) C in_X3_foreground_X3 (ci := 3) rfl 22 (by decide) (fl_X3_foreground_78) rfl dX3_foreground_2 hR.2.1 rfl ?_
  refine zz_callV (pc := 5) C (c_X3_tells l D hR) gX3_foreground_X3_tells rfl 1 (by decide +kernel) ⟨Nat.le_of_ble_eq_true rfl, Nat.le_of_ble_eq_true rfl⟩ hR.2.1 (ci := 3) rfl rfl rfl dX3_foreground_5 rfl (Nat.le_of_ble_eq_true rfl) rfl ⟨Nat.le_of_ble_eq_true rfl, Nat.le_of_ble_eq_true rfl⟩ ?_
  rintro v G9 ⟨rfl, hm⟩
  exact zz_ireturn (pc := 8) C dX3_foreground_8 rfl (Nat.le_refl _) (Nat.le_refl _) ⟨zvi (congrFun (hag 22 (by decide)) 0), zMod.mk hm (zAg_off hag (by decide)) zu_self (hring.ag rfl rfl rfl)⟩
theorem fl_X3_exists_7 : Cond.fieldLink RX3 7 "SignalpostModel" "isThere" "[Z" ∈ wsX3_exists := by decide +kernel
theorem in_X3_exists_X3 : ∀ w ∈ u_ws RX3 TX3 29, w ∈ wsX3_exists := by decide +kernel
set_option maxHeartbeats 4000000 in
set_option maxRecDepth 100000 in
theorem c_X3_exists (l : Launch) (D : va_G) {B G : zG} {y : Nat} {ma : Nat → Nat} {r : zS} {σ : zS} {x : Int32} (hR : zModR B y ma r G) (hag : zAg r σ) (hring : zRing r []) : zMet D l yX3_exists wsX3_exists ({ frames := 1, cells := 0, slots := 0, locals := 21 } : Room) [.ref y, .int x] G (fun v G9 => v = some (.int (if zE1 (x < 1 ∨ (40 : Int32) < x) = 0 then zb (σ 0 (pn x) ≠ 0) else 0)) ∧ zMod B y ma (if zE1 (x < 1 ∨ (40 : Int32) < x) = 0 then σ else σ) [] (zE1 (x < 1 ∨ (40 : Int32) < x)) G9) := by
  refine zMet_of (cc := cX3_exists) (maxL := 2) (ret := (some .boolean)) (by decide) rfl (Nat.le_of_ble_eq_true rfl) ?_
  intro p e s m args below meth c C hmn
  obtain ⟨t9, rfl⟩ : ∃ t9, r = zMix σ t9 := ⟨r, zMix_of hag⟩
  have k0 : zE1 (x < 1 ∨ (40 : Int32) < x) = 0 → zV p l e ({ frames := 1, cells := 0, slots := 0, locals := 21 } : Room) s m args below meth c D (zA G s.heap.size) 0 0 (zZ below D G (fun v G9 => v = some (.int (if zE1 (x < 1 ∨ (40 : Int32) < x) = 0 then zb (σ 0 (pn x) ≠ 0) else 0)) ∧ zMod B y ma (if zE1 (x < 1 ∨ (40 : Int32) < x) = 0 then σ else σ) [] (zE1 (x < 1 ∨ (40 : Int32) < x)) G9) args s ({ frames := 1, cells := 0, slots := 0, locals := 21 } : Room)) G 17 [some (.ref y), some (.int x)] [.int 0, .ref y] := by
    intro hT
    have hx := zIn40 (x := x) (fun z => zE1_z hT (Or.inl z)) (fun z => zE1_z hT (Or.inr z))
    refine zz_callV (pc := 17) C (c_X3_fails l D hR (w := 0)) gX3_exists_X3_fails rfl 1 (by decide +kernel) ⟨Nat.le_of_ble_eq_true rfl, Nat.le_of_ble_eq_true rfl⟩ hR.2.1 (ci := 3) rfl rfl rfl dX3_exists_17 rfl (Nat.le_of_ble_eq_true rfl) rfl ⟨Nat.le_of_ble_eq_true rfl, Nat.le_of_ble_eq_true rfl⟩ ?_
    rintro v G9 ⟨rfl, hR⟩
    have hag : zAg (zu (zMix σ t9) 23 0 0) σ := zAg_off hag (by decide)
    have hring : zRing (zu (zMix σ t9) 23 0 0) [] := hring.ag rfl rfl rfl
    have h23 : (zu (zMix σ t9) 23 0 0) 23 0 = 0 := zu_self
    refine zz_if_ne (pc := 20) C (tgt := 36) dX3_exists_20 (by decide) (fun hc20 => ?_) (fun hc20 => ?_)
    · exact (z02 hc20).elim
    · refine zz_aload_n (pc := 23) C dX3_exists_23 rfl ?_
      refine zz_get (pc := 24) C in_X3_exists_X3 (ci := 3) rfl 0 (by decide) (fl_X3_exists_7) rfl dX3_exists_24 hR.2.1 rfl ?_
      refine zz_iload_n (pc := 27) C dX3_exists_27 rfl ?_
      refine zz_mldz (pc := 28) C hR 0 (by decide) rfl dX3_exists_28 hx.1 (by show _ < 41; have := hx.2.2; omega) ?_
      refine zz_if_eq (pc := 29) C (tgt := 36) dX3_exists_29 (by decide) (fun hc29 => ?_) (fun hc29 => ?_)
      · refine zz_iconst (pc := 36) C (v := 0) (by decide) dX3_exists_36 ?_
        exact zz_ireturn (pc := 37) C dX3_exists_37 (by first | rfl | decide) (Nat.le_refl _) (Nat.le_refl _) ⟨zvok hT (by first | exact z1b hc29 | exact z0b (fun z => z hc29)), zMod.ok hT hR hag h23 hring⟩
      · refine zz_iconst (pc := 32) C (v := 1) (by decide) dX3_exists_32 ?_
        refine zz_goto (pc := 33) C (tgt := 37) dX3_exists_33 (by decide) ?_
        exact zz_ireturn (pc := 37) C dX3_exists_37 (by first | rfl | decide) (Nat.le_refl _) (Nat.le_refl _) ⟨zvok hT (by first | exact z1b hc29 | exact z0b (fun z => z hc29)), zMod.ok hT hR hag h23 hring⟩
  have k1 : ∀ w9 : Int32, zE1 (x < 1 ∨ (40 : Int32) < x) = w9 → 0 < w9 → zV p l e ({ frames := 1, cells := 0, slots := 0, locals := 21 } : Room) s m args below meth c D (zA G s.heap.size) 0 0 (zZ below D G (fun v G9 => v = some (.int (if zE1 (x < 1 ∨ (40 : Int32) < x) = 0 then zb (σ 0 (pn x) ≠ 0) else 0)) ∧ zMod B y ma (if zE1 (x < 1 ∨ (40 : Int32) < x) = 0 then σ else σ) [] (zE1 (x < 1 ∨ (40 : Int32) < x)) G9) args s ({ frames := 1, cells := 0, slots := 0, locals := 21 } : Room)) G 17 [some (.ref y), some (.int x)] [.int w9, .ref y] := by
    intro w9 hT hw9
    refine zz_callV (pc := 17) C (c_X3_fails l D hR (w := w9)) gX3_exists_X3_fails rfl 1 (by decide +kernel) ⟨Nat.le_of_ble_eq_true rfl, Nat.le_of_ble_eq_true rfl⟩ hR.2.1 (ci := 3) rfl rfl rfl dX3_exists_17 rfl (Nat.le_of_ble_eq_true rfl) rfl ⟨Nat.le_of_ble_eq_true rfl, Nat.le_of_ble_eq_true rfl⟩ ?_
    rintro v G9 ⟨rfl, hR⟩
    have hag : zAg (zu (zMix σ t9) 23 0 w9) σ := zAg_off hag (by decide)
    have hring : zRing (zu (zMix σ t9) 23 0 w9) [] := hring.ag rfl rfl rfl
    have h23 : (zu (zMix σ t9) 23 0 w9) 23 0 = w9 := zu_self
    refine zz_if_ne (pc := 20) C (tgt := 36) dX3_exists_20 (by decide) (fun hc20 => ?_) (fun hc20 => ?_)
    · refine zz_iconst (pc := 36) C (v := 0) (by decide) dX3_exists_36 ?_
      exact zz_ireturn (pc := 37) C dX3_exists_37 (by first | rfl | decide) (Nat.le_refl _) (Nat.le_refl _) ⟨zvno hT hw9, zMod.no hT hw9 hR hag h23 hring⟩
    · exact (zw1 hc20 hw9).elim
  refine zz_aload_n (pc := 0) C dX3_exists_0 rfl ?_
  refine zz_iload_n (pc := 1) C dX3_exists_1 rfl ?_
  refine zz_iconst (pc := 2) C (v := 1) (by decide) dX3_exists_2 ?_
  refine zz_icmp_lt (pc := 3) C (tgt := 12) dX3_exists_3 (by decide) (fun hc3 => ?_) (fun hc3 => ?_)
  · refine zz_iconst (pc := 12) C (v := 1) (by decide) dX3_exists_12 ?_
    refine zz_goto (pc := 13) C (tgt := 17) dX3_exists_13 (by decide) ?_
    first
      | exact k0 (zE1_0 (fun z => z.elim hc3 (fun u => absurd u (Int32.not_lt.mpr hc9))))
      | exact k1 1 (zE1_1 (Or.inl hc3)) (by decide)
      | exact k1 1 (zE1_1 (Or.inr (Int32.not_le.mp hc9))) (by decide)
  · refine zz_iload_n (pc := 6) C dX3_exists_6 rfl ?_
    refine zz_bipush (pc := 7) C (v := 40) (by decide) dX3_exists_7 ?_
    refine zz_icmp_le (pc := 9) C (tgt := 16) dX3_exists_9 (by decide) (fun hc9 => ?_) (fun hc9 => ?_)
    · refine zz_iconst (pc := 16) C (v := 0) (by decide) dX3_exists_16 ?_
      first
        | exact k0 (zE1_0 (fun z => z.elim hc3 (fun u => absurd u (Int32.not_lt.mpr hc9))))
        | exact k1 1 (zE1_1 (Or.inl hc3)) (by decide)
        | exact k1 1 (zE1_1 (Or.inr (Int32.not_le.mp hc9))) (by decide)
    · refine zz_iconst (pc := 12) C (v := 1) (by decide) dX3_exists_12 ?_
      refine zz_goto (pc := 13) C (tgt := 17) dX3_exists_13 (by decide) ?_
      first
        | exact k0 (zE1_0 (fun z => z.elim hc3 (fun u => absurd u (Int32.not_lt.mpr hc9))))
        | exact k1 1 (zE1_1 (Or.inl hc3)) (by decide)
        | exact k1 1 (zE1_1 (Or.inr (Int32.not_le.mp hc9))) (by decide)

set_option maxHeartbeats 4000000 in
set_option maxRecDepth 100000 in
theorem c_X3_isOrphaned (l : Launch) (D : va_G) {B G : zG} {y : Nat} {ma : Nat → Nat} {r : zS} {σ : zS} {x : Int32} (hR : zModR B y ma r G) (hag : zAg r σ) (hring : zRing r []) (h00 : σ 0 0 = 0) (hpar2 : ∀ k, k < 41 → σ 0 k ≠ 0 → σ 4 k = 0 → k ≠ 1 → ∃ j, j < 41 ∧ σ 1 k = nI j) : zMet D l yX3_isOrphaned wsX3_isOrphaned ({ frames := 2, cells := 0, slots := 0, locals := 46 } : Room) [.ref y, .int x] G (fun v G9 => v = some (.int (if zE1 (x < 1 ∨ (40 : Int32) < x) = 0 then zb (zOrph σ x) else 0)) ∧ zMod B y ma (if zE1 (x < 1 ∨ (40 : Int32) < x) = 0 then σ else σ) [] (zE1 (x < 1 ∨ (40 : Int32) < x)) G9) := by
  refine zMet_of (cc := cX3_isOrphaned) (maxL := 2) (ret := (some .boolean)) (by decide) rfl (Nat.le_of_ble_eq_true rfl) ?_
  intro p e s m args below meth c C hmn
  obtain ⟨t9, rfl⟩ : ∃ t9, r = zMix σ t9 := ⟨r, zMix_of hag⟩
  have hag0 := hag
  have k0 : zE1 (x < 1 ∨ (40 : Int32) < x) = 0 → zV p l e ({ frames := 2, cells := 0, slots := 0, locals := 46 } : Room) s m args below meth c D (zA G s.heap.size) 0 0 (zZ below D G (fun v G9 => v = some (.int (if zE1 (x < 1 ∨ (40 : Int32) < x) = 0 then zb (zOrph σ x) else 0)) ∧ zMod B y ma (if zE1 (x < 1 ∨ (40 : Int32) < x) = 0 then σ else σ) [] (zE1 (x < 1 ∨ (40 : Int32) < x)) G9) args s ({ frames := 2, cells := 0, slots := 0, locals := 46 } : Room)) G 17 [some (.ref y), some (.int x)] [.int 0, .ref y] := by
    intro hT
    have hx := zIn40 (x := x) (fun z => zE1_z hT (Or.inl z)) (fun z => zE1_z hT (Or.inr z))
    refine zz_callV (pc := 17) C (c_X3_fails l D hR (w := 0)) gX3_isOrphaned_X3_fails rfl 1 (by decide +kernel) ⟨Nat.le_of_ble_eq_true rfl, Nat.le_of_ble_eq_true rfl⟩ hR.2.1 (ci := 3) rfl rfl rfl dX3_isOrphaned_17 rfl (Nat.le_of_ble_eq_true rfl) rfl ⟨Nat.le_of_ble_eq_true rfl, Nat.le_of_ble_eq_true rfl⟩ ?_
    rintro v G9 ⟨rfl, hR⟩
    have hag : zAg (zu (zMix σ t9) 23 0 0) σ := zAg_off hag (by decide)
    have hring : zRing (zu (zMix σ t9) 23 0 0) [] := hring.ag rfl rfl rfl
    have h23 : (zu (zMix σ t9) 23 0 0) 23 0 = 0 := zu_self
    refine zz_if_ne (pc := 20) C (tgt := 35) dX3_isOrphaned_20 (by decide) (fun hc20 => ?_) (fun hc20 => ?_)
    · exact (z02 hc20).elim
    · refine zz_aload_n (pc := 23) C dX3_isOrphaned_23 rfl ?_
      refine zz_iload_n (pc := 24) C dX3_isOrphaned_24 rfl ?_
      refine zz_callV (pc := 25) C (c_X3_orphaned l D hR (g := x) h00 hpar2) gX3_isOrphaned_X3_orphaned rfl 1 (by decide +kernel) ⟨Nat.le_of_ble_eq_true rfl, Nat.le_of_ble_eq_true rfl⟩ hR.2.1 (ci := 3) rfl rfl rfl dX3_isOrphaned_25 rfl (Nat.le_of_ble_eq_true rfl) rfl ⟨Nat.le_of_ble_eq_true rfl, Nat.le_of_ble_eq_true rfl⟩ ?_
      rintro v G9 ⟨rfl, rfl⟩
      refine zz_if_eq (pc := 28) C (tgt := 35) dX3_isOrphaned_28 (by decide) (fun hc28 => ?_) (fun hc28 => ?_)
      · refine zz_iconst (pc := 35) C (v := 0) (by decide) dX3_isOrphaned_35 ?_
        exact zz_ireturn (pc := 36) C dX3_isOrphaned_36 (by first | rfl | decide) (Nat.le_refl _) (Nat.le_refl _) ⟨zvok hT (by first | exact z1b ((zOrph_ag (zAg_off (f := 23) (p := 0) (v := 0) hag0 (by decide))).mp (zbp hc28)) | exact z0b (fun z => zb_eq.mp hc28 ((zOrph_ag (zAg_off (f := 23) (p := 0) (v := 0) hag0 (by decide))).mpr z))), zMod.ok hT hR hag h23 hring⟩
      · refine zz_iconst (pc := 31) C (v := 1) (by decide) dX3_isOrphaned_31 ?_
        refine zz_goto (pc := 32) C (tgt := 36) dX3_isOrphaned_32 (by decide) ?_
        exact zz_ireturn (pc := 36) C dX3_isOrphaned_36 (by first | rfl | decide) (Nat.le_refl _) (Nat.le_refl _) ⟨zvok hT (by first | exact z1b ((zOrph_ag (zAg_off (f := 23) (p := 0) (v := 0) hag0 (by decide))).mp (zbp hc28)) | exact z0b (fun z => zb_eq.mp hc28 ((zOrph_ag (zAg_off (f := 23) (p := 0) (v := 0) hag0 (by decide))).mpr z))), zMod.ok hT hR hag h23 hring⟩
  have k1 : ∀ w9 : Int32, zE1 (x < 1 ∨ (40 : Int32) < x) = w9 → 0 < w9 → zV p l e ({ frames := 2, cells := 0, slots := 0, locals := 46 } : Room) s m args below meth c D (zA G s.heap.size) 0 0 (zZ below D G (fun v G9 => v = some (.int (if zE1 (x < 1 ∨ (40 : Int32) < x) = 0 then zb (zOrph σ x) else 0)) ∧ zMod B y ma (if zE1 (x < 1 ∨ (40 : Int32) < x) = 0 then σ else σ) [] (zE1 (x < 1 ∨ (40 : Int32) < x)) G9) args s ({ frames := 2, cells := 0, slots := 0, locals := 46 } : Room)) G 17 [some (.ref y), some (.int x)] [.int w9, .ref y] := by
    intro w9 hT hw9
    refine zz_callV (pc := 17) C (c_X3_fails l D hR (w := w9)) gX3_isOrphaned_X3_fails rfl 1 (by decide +kernel) ⟨Nat.le_of_ble_eq_true rfl, Nat.le_of_ble_eq_true rfl⟩ hR.2.1 (ci := 3) rfl rfl rfl dX3_isOrphaned_17 rfl (Nat.le_of_ble_eq_true rfl) rfl ⟨Nat.le_of_ble_eq_true rfl, Nat.le_of_ble_eq_true rfl⟩ ?_
    rintro v G9 ⟨rfl, hR⟩
    have hag : zAg (zu (zMix σ t9) 23 0 w9) σ := zAg_off hag (by decide)
    have hring : zRing (zu (zMix σ t9) 23 0 w9) [] := hring.ag rfl rfl rfl
    have h23 : (zu (zMix σ t9) 23 0 w9) 23 0 = w9 := zu_self
    refine zz_if_ne (pc := 20) C (tgt := 35) dX3_isOrphaned_20 (by decide) (fun hc20 => ?_) (fun hc20 => ?_)
    · refine zz_iconst (pc := 35) C (v := 0) (by decide) dX3_isOrphaned_35 ?_
      exact zz_ireturn (pc := 36) C dX3_isOrphaned_36 (by first | rfl | decide) (Nat.le_refl _) (Nat.le_refl _) ⟨zvno hT hw9, zMod.no hT hw9 hR hag h23 hring⟩
    · exact (zw1 hc20 hw9).elim
  refine zz_aload_n (pc := 0) C dX3_exists_0 rfl ?_
  refine zz_iload_n (pc := 1) C dX3_exists_1 rfl ?_
  refine zz_iconst (pc := 2) C (v := 1) (by decide) dX3_exists_2 ?_
  refine zz_icmp_lt (pc := 3) C (tgt := 12) dX3_exists_3 (by decide) (fun hc3 => ?_) (fun hc3 => ?_)
  · refine zz_iconst (pc := 12) C (v := 1) (by decide) dX3_exists_12 ?_
    refine zz_goto (pc := 13) C (tgt := 17) dX3_exists_13 (by decide) ?_
    first
      | exact k0 (zE1_0 (fun z => z.elim hc3 (fun u => absurd u (Int32.not_lt.mpr hc9))))
      | exact k1 1 (zE1_1 (Or.inl hc3)) (by decide)
      | exact k1 1 (zE1_1 (Or.inr (Int32.not_le.mp hc9))) (by decide)
  · refine zz_iload_n (pc := 6) C dX3_exists_6 rfl ?_
    refine zz_bipush (pc := 7) C (v := 40) (by decide) dX3_exists_7 ?_
    refine zz_icmp_le (pc := 9) C (tgt := 16) dX3_exists_9 (by decide) (fun hc9 => ?_) (fun hc9 => ?_)
    · refine zz_iconst (pc := 16) C (v := 0) (by decide) dX3_exists_16 ?_
      first
        | exact k0 (zE1_0 (fun z => z.elim hc3 (fun u => absurd u (Int32.not_lt.mpr hc9))))
        | exact k1 1 (zE1_1 (Or.inl hc3)) (by decide)
        | exact k1 1 (zE1_1 (Or.inr (Int32.not_le.mp hc9))) (by decide)
    · refine zz_iconst (pc := 12) C (v := 1) (by decide) dX3_exists_12 ?_
      refine zz_goto (pc := 13) C (tgt := 17) dX3_exists_13 (by decide) ?_
      first
        | exact k0 (zE1_0 (fun z => z.elim hc3 (fun u => absurd u (Int32.not_lt.mpr hc9))))
        | exact k1 1 (zE1_1 (Or.inl hc3)) (by decide)
        | exact k1 1 (zE1_1 (Or.inr (Int32.not_le.mp hc9))) (by decide)
def zCon (σ : zS) (k : Nat) : Int32 := if σ 4 k ≠ 0 then 3 else if σ 5 k ≠ 0 then 2 else if σ 6 k ≠ 0 then 1 else 0
theorem fl_X3_state_23 : Cond.fieldLink RX3 23 "SignalpostModel" "isZombie" "[Z" ∈ wsX3_state := by decide +kernel
theorem fl_X3_state_26 : Cond.fieldLink RX3 26 "SignalpostModel" "isStopped" "[Z" ∈ wsX3_state := by decide +kernel
theorem fl_X3_state_29 : Cond.fieldLink RX3 29 "SignalpostModel" "isWaiting" "[Z" ∈ wsX3_state := by decide +kernel
theorem in_X3_state_X3 : ∀ w ∈ u_ws RX3 TX3 29, w ∈ wsX3_state := by decide +kernel
set_option maxHeartbeats 4000000 in
set_option maxRecDepth 100000 in
theorem c_X3_state (l : Launch) (D : va_G) {B G : zG} {y : Nat} {ma : Nat → Nat} {r : zS} {σ : zS} {x : Int32} (hR : zModR B y ma r G) (hag : zAg r σ) (hring : zRing r []) : zMet D l yX3_state wsX3_state ({ frames := 1, cells := 0, slots := 0, locals := 21 } : Room) [.ref y, .int x] G (fun v G9 => v = some (.int (if zE1 (¬ zHere σ x) = 0 then zCon σ (pn x) else 0)) ∧ zMod B y ma (if zE1 (¬ zHere σ x) = 0 then σ else σ) [] (zE1 (¬ zHere σ x)) G9) := by
  refine zMet_of (cc := cX3_state) (maxL := 2) (ret := (some .int)) (by decide) rfl (Nat.le_of_ble_eq_true rfl) ?_
  intro p e s m args below meth c C hmn
  obtain ⟨t9, rfl⟩ : ∃ t9, r = zMix σ t9 := ⟨r, zMix_of hag⟩
  have k0 : zE1 (¬ zHere σ x) = 0 → zV p l e ({ frames := 1, cells := 0, slots := 0, locals := 21 } : Room) s m args below meth c D (zA G s.heap.size) 0 0 (zZ below D G (fun v G9 => v = some (.int (if zE1 (¬ zHere σ x) = 0 then zCon σ (pn x) else 0)) ∧ zMod B y ma (if zE1 (¬ zHere σ x) = 0 then σ else σ) [] (zE1 (¬ zHere σ x)) G9) args s ({ frames := 1, cells := 0, slots := 0, locals := 21 } : Room)) G 14 [some (.ref y), some (.int x)] [.int 0, .ref y] := by
    intro hT
    have hx : zHere σ x := Classical.not_not.mp (zE1_z hT)
    refine zz_callV (pc := 14) C (c_X3_fails l D hR (w := 0)) gX3_state_X3_fails rfl 1 (by decide +kernel) ⟨Nat.le_of_ble_eq_true rfl, Nat.le_of_ble_eq_true rfl⟩ hR.2.1 (ci := 3) rfl rfl rfl dX3_state_14 rfl (Nat.le_of_ble_eq_true rfl) rfl ⟨Nat.le_of_ble_eq_true rfl, Nat.le_of_ble_eq_true rfl⟩ ?_
    rintro v G9 ⟨rfl, hR⟩
    have hag : zAg (zu (zMix σ t9) 23 0 0) σ := zAg_off hag (by decide)
    have hring : zRing (zu (zMix σ t9) 23 0 0) [] := hring.ag rfl rfl rfl
    have h23 : (zu (zMix σ t9) 23 0 0) 23 0 = 0 := zu_self
    refine zz_if_eq (pc := 17) C (tgt := 22) dX3_state_17 (by decide) (fun hc17 => ?_) (fun hc17 => ?_)
    · refine zz_aload_n (pc := 22) C dX3_state_22 rfl ?_
      refine zz_get (pc := 23) C in_X3_state_X3 (ci := 3) rfl 4 (by decide) (fl_X3_state_23) rfl dX3_state_23 hR.2.1 rfl ?_
      refine zz_iload_n (pc := 26) C dX3_state_26 rfl ?_
      refine zz_mldz (pc := 27) C hR 4 (by decide) rfl dX3_state_27 hx.at.1 (by show _ < 41; have := hx.at.2.2; omega) ?_
      refine zz_if_eq (pc := 28) C (tgt := 35) dX3_state_28 (by decide) (fun hc28 => ?_) (fun hc28 => ?_)
      · refine zz_aload_n (pc := 35) C dX3_state_35 rfl ?_
        refine zz_get (pc := 36) C in_X3_state_X3 (ci := 3) rfl 5 (by decide) (fl_X3_state_26) rfl dX3_state_36 hR.2.1 rfl ?_
        refine zz_iload_n (pc := 39) C dX3_state_39 rfl ?_
        refine zz_mldz (pc := 40) C hR 5 (by decide) rfl dX3_state_40 hx.at.1 (by show _ < 41; have := hx.at.2.2; omega) ?_
        refine zz_if_eq (pc := 41) C (tgt := 48) dX3_state_41 (by decide) (fun hc41 => ?_) (fun hc41 => ?_)
        · refine zz_aload_n (pc := 48) C dX3_state_48 rfl ?_
          refine zz_get (pc := 49) C in_X3_state_X3 (ci := 3) rfl 6 (by decide) (fl_X3_state_29) rfl dX3_state_49 hR.2.1 rfl ?_
          refine zz_iload_n (pc := 52) C dX3_state_52 rfl ?_
          refine zz_mldz (pc := 53) C hR 6 (by decide) rfl dX3_state_53 hx.at.1 (by show _ < 41; have := hx.at.2.2; omega) ?_
          refine zz_if_eq (pc := 54) C (tgt := 61) dX3_state_54 (by decide) (fun hc54 => ?_) (fun hc54 => ?_)
          · refine zz_iconst (pc := 61) C (v := 0) (by decide) dX3_state_61 ?_
            exact zz_ireturn (pc := 62) C dX3_state_62 (by first | rfl | decide) (Nat.le_refl _) (Nat.le_refl _) ⟨zvok hT (by first | exact (if_pos hc28).symm | exact ((if_neg (fun z => z hc28)).trans (if_pos hc41)).symm | exact ((if_neg (fun z => z hc28)).trans ((if_neg (fun z => z hc41)).trans (if_pos hc54))).symm | exact ((if_neg (fun z => z hc28)).trans ((if_neg (fun z => z hc41)).trans (if_neg (fun z => z hc54)))).symm), zMod.ok hT hR hag h23 hring⟩
          · refine zz_iconst (pc := 57) C (v := 1) (by decide) dX3_state_57 ?_
            refine zz_goto (pc := 58) C (tgt := 62) dX3_state_58 (by decide) ?_
            exact zz_ireturn (pc := 62) C dX3_state_62 (by first | rfl | decide) (Nat.le_refl _) (Nat.le_refl _) ⟨zvok hT (by first | exact (if_pos hc28).symm | exact ((if_neg (fun z => z hc28)).trans (if_pos hc41)).symm | exact ((if_neg (fun z => z hc28)).trans ((if_neg (fun z => z hc41)).trans (if_pos hc54))).symm | exact ((if_neg (fun z => z hc28)).trans ((if_neg (fun z => z hc41)).trans (if_neg (fun z => z hc54)))).symm), zMod.ok hT hR hag h23 hring⟩
        · refine zz_iconst (pc := 44) C (v := 2) (by decide) dX3_state_44 ?_
          refine zz_goto (pc := 45) C (tgt := 62) dX3_state_45 (by decide) ?_
          exact zz_ireturn (pc := 62) C dX3_state_62 (by first | rfl | decide) (Nat.le_refl _) (Nat.le_refl _) ⟨zvok hT (by first | exact (if_pos hc28).symm | exact ((if_neg (fun z => z hc28)).trans (if_pos hc41)).symm | exact ((if_neg (fun z => z hc28)).trans ((if_neg (fun z => z hc41)).trans (if_pos hc54))).symm | exact ((if_neg (fun z => z hc28)).trans ((if_neg (fun z => z hc41)).trans (if_neg (fun z => z hc54)))).symm), zMod.ok hT hR hag h23 hring⟩
      · refine zz_iconst (pc := 31) C (v := 3) (by decide) dX3_state_31 ?_
        refine zz_goto (pc := 32) C (tgt := 62) dX3_state_32 (by decide) ?_
        exact zz_ireturn (pc := 62) C dX3_state_62 (by first | rfl | decide) (Nat.le_refl _) (Nat.le_refl _) ⟨zvok hT (by first | exact (if_pos hc28).symm | exact ((if_neg (fun z => z hc28)).trans (if_pos hc41)).symm | exact ((if_neg (fun z => z hc28)).trans ((if_neg (fun z => z hc41)).trans (if_pos hc54))).symm | exact ((if_neg (fun z => z hc28)).trans ((if_neg (fun z => z hc41)).trans (if_neg (fun z => z hc54)))).symm), zMod.ok hT hR hag h23 hring⟩
    · exact (z01 hc17).elim
  have k1 : ∀ w9 : Int32, zE1 (¬ zHere σ x) = w9 → 0 < w9 → zV p l e ({ frames := 1, cells := 0, slots := 0, locals := 21 } : Room) s m args below meth c D (zA G s.heap.size) 0 0 (zZ below D G (fun v G9 => v = some (.int (if zE1 (¬ zHere σ x) = 0 then zCon σ (pn x) else 0)) ∧ zMod B y ma (if zE1 (¬ zHere σ x) = 0 then σ else σ) [] (zE1 (¬ zHere σ x)) G9) args s ({ frames := 1, cells := 0, slots := 0, locals := 21 } : Room)) G 14 [some (.ref y), some (.int x)] [.int w9, .ref y] := by
    intro w9 hT hw9
    refine zz_callV (pc := 14) C (c_X3_fails l D hR (w := w9)) gX3_state_X3_fails rfl 1 (by decide +kernel) ⟨Nat.le_of_ble_eq_true rfl, Nat.le_of_ble_eq_true rfl⟩ hR.2.1 (ci := 3) rfl rfl rfl dX3_state_14 rfl (Nat.le_of_ble_eq_true rfl) rfl ⟨Nat.le_of_ble_eq_true rfl, Nat.le_of_ble_eq_true rfl⟩ ?_
    rintro v G9 ⟨rfl, hR⟩
    have hag : zAg (zu (zMix σ t9) 23 0 w9) σ := zAg_off hag (by decide)
    have hring : zRing (zu (zMix σ t9) 23 0 w9) [] := hring.ag rfl rfl rfl
    have h23 : (zu (zMix σ t9) 23 0 w9) 23 0 = w9 := zu_self
    refine zz_if_eq (pc := 17) C (tgt := 22) dX3_state_17 (by decide) (fun hc17 => ?_) (fun hc17 => ?_)
    · exact (zw0 hc17 hw9).elim
    · refine zz_iconst (pc := 20) C (v := 0) (by decide) dX3_state_20 ?_
      exact zz_ireturn (pc := 21) C dX3_state_21 (by first | rfl | decide) (Nat.le_refl _) (Nat.le_refl _) ⟨zvno hT hw9, zMod.no hT hw9 hR hag h23 hring⟩
  refine zz_aload_n (pc := 0) C dX3_state_0 rfl ?_
  refine zz_aload_n (pc := 1) C dX3_state_1 rfl ?_
  refine zz_iload_n (pc := 2) C dX3_state_2 rfl ?_
  refine zz_callV (pc := 3) C (c_X3_is l D hR (x := x)) gX3_state_X3_is rfl 1 (by decide +kernel) ⟨Nat.le_of_ble_eq_true rfl, Nat.le_of_ble_eq_true rfl⟩ hR.2.1 (ci := 3) rfl rfl rfl dX3_state_3 rfl (Nat.le_of_ble_eq_true rfl) rfl ⟨Nat.le_of_ble_eq_true rfl, Nat.le_of_ble_eq_true rfl⟩ ?_
  rintro v G9 ⟨rfl, rfl⟩
  refine zz_if_eq (pc := 6) C (tgt := 13) dX3_state_6 (by decide) (fun hc6 => ?_) (fun hc6 => ?_)
  · refine zz_iconst (pc := 13) C (v := 1) (by decide) dX3_state_13 ?_
    first
      | exact k0 (zE1_0 (fun z => z (zbp hc6)))
      | exact k1 1 (zE1_1 (zb_eq.mp hc6)) (by decide)
  · refine zz_iconst (pc := 9) C (v := 0) (by decide) dX3_state_9 ?_
    refine zz_goto (pc := 10) C (tgt := 14) dX3_state_10 (by decide) ?_
    first
      | exact k0 (zE1_0 (fun z => z (zbp hc6)))
      | exact k1 1 (zE1_1 (zb_eq.mp hc6)) (by decide)
def zCnt (σ : zS) (n : Nat) : Nat := ((List.range n).filter (fun k => decide (σ 0 k ≠ 0))).length
theorem zCnt_yes {σ : zS} {n : Nat} (h : σ 0 n ≠ 0) : zCnt σ (n + 1) = zCnt σ n + 1 := by
  unfold zCnt
  rw [List.range_succ, List.filter_append, List.filter_cons, if_pos (decide_eq_true h), List.filter_nil, List.length_append]
  rfl
theorem zCnt_no {σ : zS} {n : Nat} (h : ¬ σ 0 n ≠ 0) : zCnt σ (n + 1) = zCnt σ n := by
  unfold zCnt
  rw [List.range_succ, List.filter_append, List.filter_cons, if_neg (by rw [decide_eq_true_eq]; exact h), List.filter_nil, List.append_nil]
theorem fl_X3_processes_90 : Cond.fieldLink RX3 90 "SignalpostModel" "thrown" "I" ∈ wsX3_processes := by decide +kernel
theorem fl_X3_processes_7 : Cond.fieldLink RX3 7 "SignalpostModel" "isThere" "[Z" ∈ wsX3_processes := by decide +kernel
theorem in_X3_processes_X3 : ∀ w ∈ u_ws RX3 TX3 29, w ∈ wsX3_processes := by decide +kernel
set_option maxHeartbeats 4000000 in
set_option maxRecDepth 100000 in
theorem c_X3_processes (l : Launch) (D : va_G) {B G : zG} {y : Nat} {ma : Nat → Nat} {r : zS} {σ : zS} (hR : zModR B y ma r G) (hag : zAg r σ) (hring : zRing r []) (h00 : σ 0 0 = 0) : zMet D l yX3_processes wsX3_processes ({ frames := 0, cells := 0, slots := 0, locals := 0 } : Room) [.ref y] G (fun v G9 => v = some (.int (nI (zCnt σ 41))) ∧ zMod B y ma σ [] 0 G9) := by
  refine zMet_of (cc := cX3_processes) (maxL := 3) (ret := (some .int)) (by decide) rfl (Nat.le_of_ble_eq_true rfl) ?_
  intro p e s m args below meth c C hmn
  obtain ⟨t9, rfl⟩ : ∃ t9, r = zMix σ t9 := ⟨r, zMix_of hag⟩
  refine zz_aload_n (pc := 0) C dX3_processes_0 rfl ?_
  refine zz_iconst (pc := 1) C (v := 0) (by decide) dX3_processes_1 ?_
  refine zz_mput (pc := 2) C in_X3_processes_X3 hR 23 (by decide) fl_X3_processes_90 dX3_processes_2 (fun G9 hR => ?_)
  refine zz_iconst (pc := 5) C (v := 0) (by decide) dX3_processes_5 ?_
  refine zz_istore_n (pc := 6) C dX3_processes_6 (Nat.le_of_ble_eq_true rfl) ?_
  refine zz_iconst (pc := 7) C (v := 1) (by decide) dX3_processes_7 ?_
  refine zz_istore_n (pc := 8) C dX3_processes_8 (Nat.le_of_ble_eq_true rfl) ?_
  have hag9 : zAg (zu (zMix σ t9) 23 0 0) σ := zAg_off hag (by decide)
  have hring9 : zRing (zu (zMix σ t9) 23 0 0) [] := hring.ag rfl rfl rfl
  have loop : ∀ (n i : Nat), i + n = 41 → 1 ≤ i → zV p l e ({ frames := 0, cells := 0, slots := 0, locals := 0 } : Room) s m args below meth c D (zA G s.heap.size) 0 0 (zZ below D G (fun v G9 => v = some (.int (nI (zCnt σ 41))) ∧ zMod B y ma σ [] 0 G9) args s ({ frames := 0, cells := 0, slots := 0, locals := 0 } : Room)) G9 9 [some (.ref y), some (.int (nI (zCnt σ i))), some (.int (nI (i)))] [] := by
    intro n
    induction n with
    | zero =>
      intro i hi h1
      have hi41 : i = 41 := by omega
      subst hi41
      refine zz_iload_n (pc := 9) C dX3_processes_9 rfl ?_
      refine zz_bipush (pc := 10) C (v := 40) (by decide) dX3_processes_10 ?_
      refine zz_icmp_gt (pc := 12) C (tgt := 38) dX3_processes_12 (by decide) (fun hc12 => ?_) (fun hc12 => ?_)
      · refine zz_iload_n (pc := 38) C dX3_processes_38 rfl ?_
        exact zz_ireturn (pc := 39) C dX3_processes_39 rfl (Nat.le_refl _) (Nat.le_refl _) ⟨rfl, zMod.mk hR hag9 zu_self hring9⟩
      · exact absurd z41 hc12
    | succ n ih =>
      intro i hi h1
      refine zz_iload_n (pc := 9) C dX3_processes_9 rfl ?_
      refine zz_bipush (pc := 10) C (v := 40) (by decide) dX3_processes_10 ?_
      refine zz_icmp_gt (pc := 12) C (tgt := 38) dX3_processes_12 (by decide) (fun hc12 => ?_) (fun hc12 => ?_)
      · exact absurd hc12 (z40 (by omega))
      · refine zz_iload_n (pc := 15) C dX3_processes_15 rfl ?_
        refine zz_aload_n (pc := 16) C dX3_processes_16 rfl ?_
        refine zz_get (pc := 17) C in_X3_processes_X3 (ci := 3) rfl 0 (by decide) (fl_X3_processes_7) rfl dX3_processes_17 hR.2.1 rfl ?_
        refine zz_iload_n (pc := 20) C dX3_processes_20 rfl ?_
        refine zz_mldz (pc := 21) C hR 0 (by decide) rfl dX3_processes_21 rfl (by show _ < 41; omega) ?_
        refine zz_if_eq (pc := 22) C (tgt := 29) dX3_processes_22 (by decide) (fun hc22 => ?_) (fun hc22 => ?_)
        · refine zz_iconst (pc := 29) C (v := 0) (by decide) dX3_processes_29 ?_
          refine zz_iadd (pc := 30) C dX3_processes_30 ?_
          refine zz_istore_n (pc := 31) C dX3_processes_31 (Nat.le_of_ble_eq_true rfl) ?_
          refine zz_iinc (pc := 32) C dX3_processes_32 rfl ?_
          refine zz_goto (pc := 35) C (tgt := 9) dX3_processes_35 (by decide) ?_
          first
            | exact zV.less (L' := [some (.ref y), some (.int (nI (zCnt σ (i + 1)))), some (.int (nI (i + 1)))]) ⟨rfl, zvi ((z1i _).trans (congrArg nI (zCnt_yes (σ := σ) hc22).symm)), zvi (z1i i), trivial⟩ (ih (i + 1) (by omega) (by omega))
            | exact zV.less (L' := [some (.ref y), some (.int (nI (zCnt σ (i + 1)))), some (.int (nI (i + 1)))]) ⟨rfl, zvi ((Int32.add_zero _).trans (congrArg nI (zCnt_no (σ := σ) (fun z => z hc22)).symm)), zvi (z1i i), trivial⟩ (ih (i + 1) (by omega) (by omega))
        · refine zz_iconst (pc := 25) C (v := 1) (by decide) dX3_processes_25 ?_
          refine zz_goto (pc := 26) C (tgt := 30) dX3_processes_26 (by decide) ?_
          refine zz_iadd (pc := 30) C dX3_processes_30 ?_
          refine zz_istore_n (pc := 31) C dX3_processes_31 (Nat.le_of_ble_eq_true rfl) ?_
          refine zz_iinc (pc := 32) C dX3_processes_32 rfl ?_
          refine zz_goto (pc := 35) C (tgt := 9) dX3_processes_35 (by decide) ?_
          first
            | exact zV.less (L' := [some (.ref y), some (.int (nI (zCnt σ (i + 1)))), some (.int (nI (i + 1)))]) ⟨rfl, zvi ((z1i _).trans (congrArg nI (zCnt_yes (σ := σ) hc22).symm)), zvi (z1i i), trivial⟩ (ih (i + 1) (by omega) (by omega))
            | exact zV.less (L' := [some (.ref y), some (.int (nI (zCnt σ (i + 1)))), some (.int (nI (i + 1)))]) ⟨rfl, zvi ((Int32.add_zero _).trans (congrArg nI (zCnt_no (σ := σ) (fun z => z hc22)).symm)), zvi (z1i i), trivial⟩ (ih (i + 1) (by omega) (by omega))
  exact zV.less (L' := [some (.ref y), some (.int (nI (zCnt σ 1))), some (.int (nI (1)))]) ⟨rfl, zvi ((congrArg nI (zCnt_no (σ := σ) (n := 0) (fun z => z h00))).symm), zvi rfl, trivial⟩ (loop 40 1 rfl (Nat.le_refl _))
