/-! the questions of the law: nothing is thrown, nothing made -/
set_option maxHeartbeats 4000000 in
set_option maxRecDepth 100000 in
theorem q9_find (l : Launch) (D : va_G) {B G : zG} {x tb ev : Nat} {A : Nat → Nat} {σ : zS} {q : List zEv} {h m0 : Nat} {x9 : Int32} (hC : zCl B x tb ev A σ q h m0 G) (hh : zHere σ x9) : zMet D l yX2_find wsX2_find ({ frames := 1, cells := 0, slots := 0, locals := 30 } : Room) [.ref x, .int x9] G (fun v G9 => v = some (.ref (A (pn x9))) ∧ G9 = G) := by
  refine zMet_of (cc := cX2_find) (maxL := 3) (ret := (some (.object "Signalpost$Proc"))) (by decide) rfl (Nat.le_of_ble_eq_true rfl) ?_
  intro p e s m args below meth c C hmn
  refine zz_aload_n (pc := 0) C dX2_find_0 rfl ?_
  refine zz_iload_n (pc := 1) C dX2_find_1 rfl ?_
  refine zz_callV (pc := 2) C (c_clLook l D hC (x9 := x9)) gX2_find_X2_lookUp rfl 1 (by decide +kernel) ⟨Nat.le_of_ble_eq_true rfl, Nat.le_of_ble_eq_true rfl⟩ hC.x (ci := 2) rfl rfl rfl dX2_find_2 rfl (Nat.le_of_ble_eq_true rfl) rfl ⟨Nat.le_of_ble_eq_true rfl, Nat.le_of_ble_eq_true rfl⟩ ?_
  rintro v G9 ⟨(⟨hno, rfl⟩ | ⟨hth, rfl⟩), rfl⟩
  · exact absurd hh hno
  · skip
    refine zz_astore_n (pc := 5) C dX2_find_5 (Nat.le_of_ble_eq_true rfl) ?_
    refine zz_aload_n (pc := 6) C dX2_find_6 rfl ?_
    refine zz_ifnonnull (pc := 7) C (tgt := 20) dX2_find_7 (by decide) ?_
    refine zz_aload_n (pc := 20) C dX2_find_20 rfl ?_
    exact zz_areturn (pc := 21) C dX2_find_21 (Or.inl ⟨_, rfl⟩) (Or.inr ⟨_, rfl⟩) (Nat.le_of_ble_eq_true rfl) (Nat.le_of_ble_eq_true rfl) ⟨rfl, rfl⟩
set_option maxHeartbeats 4000000 in
set_option maxRecDepth 100000 in
theorem q9_requireRange (l : Launch) (D : va_G)  {G : zG} {v9 a9 b9 : Int32}  (hrr : ¬ (v9 < a9 ∨ b9 < v9)) : zMet D l yX2_requireRange wsX2_requireRange ({ frames := 0, cells := 0, slots := 0, locals := 0 } : Room) [.int v9, .int a9, .int b9] G (fun v G9 => v = none ∧ G9 = G) := by
  refine zMet_of (cc := cX2_requireRange) (maxL := 3) (ret := none) (by decide) rfl (Nat.le_of_ble_eq_true rfl) ?_
  intro p e s m args below meth c C hmn
  refine zz_iload_n (pc := 0) C dX2_requireRange_0 rfl ?_
  refine zz_iload_n (pc := 1) C dX2_requireRange_1 rfl ?_
  refine zz_icmp_lt (pc := 2) C (tgt := 10) dX2_requireRange_2 (by decide) (fun hc2 => ?_) (fun hc2 => ?_)
  · exact absurd (Or.inl hc2) hrr
  · refine zz_iload_n (pc := 5) C dX2_requireRange_5 rfl ?_
    refine zz_iload_n (pc := 6) C dX2_requireRange_6 rfl ?_
    refine zz_icmp_le (pc := 7) C (tgt := 20) dX2_requireRange_7 (by decide) (fun hc7 => ?_) (fun hc7 => ?_)
    · exact zz_return (pc := 20) C dX2_requireRange_20 (Nat.le_of_ble_eq_true rfl) (Nat.le_of_ble_eq_true rfl) ⟨rfl, rfl⟩
    · exact absurd (Or.inr (Int32.not_le.mp hc7)) hrr
set_option maxHeartbeats 4000000 in
set_option maxRecDepth 100000 in
theorem q9_requireNumber (l : Launch) (D : va_G)  {G : zG} {v9 : Int32}  (hrr : ¬ (v9 < 1 ∨ (40 : Int32) < v9)) : zMet D l yX2_requireNumber wsX2_requireNumber ({ frames := 1, cells := 0, slots := 0, locals := 30 } : Room) [.int v9] G (fun v G9 => v = none ∧ G9 = G) := by
  refine zMet_of (cc := cX2_requireNumber) (maxL := 1) (ret := none) (by decide) rfl (Nat.le_of_ble_eq_true rfl) ?_
  intro p e s m args below meth c C hmn
  refine zz_iload_n (pc := 0) C dX2_requireNumber_0 rfl ?_
  refine zz_iconst (pc := 1) C (v := 1) (by decide) dX2_requireNumber_1 ?_
  refine zz_bipush (pc := 2) C (v := 40) (by decide) dX2_requireNumber_2 ?_
  refine zz_callS (pc := 4) C (q9_requireRange l D hrr) gX2_requireNumber_X2_requireRange rfl 3 (by decide +kernel) ⟨Nat.le_of_ble_eq_true rfl, Nat.le_of_ble_eq_true rfl⟩ rfl dX2_requireNumber_4 rfl (Nat.le_of_ble_eq_true rfl) rfl ⟨Nat.le_of_ble_eq_true rfl, Nat.le_of_ble_eq_true rfl⟩ ?_
  rintro v G9 ⟨rfl, rfl⟩
  exact zz_return (pc := 7) C dX2_requireNumber_7 (Nat.le_of_ble_eq_true rfl) (Nat.le_of_ble_eq_true rfl) ⟨rfl, rfl⟩
set_option maxHeartbeats 4000000 in
set_option maxRecDepth 100000 in
theorem q9_group (l : Launch) (D : va_G) {B G : zG} {x tb ev : Nat} {A : Nat → Nat} {σ : zS} {q : List zEv} {h m0 : Nat} {x9 : Int32} (hC : zCl B x tb ev A σ q h m0 G) (hh : zHere σ x9) : zMet D l yX2_group wsX2_group ({ frames := 2, cells := 0, slots := 0, locals := 70 } : Room) [.ref x, .int x9] G (fun v G9 => v = some (.int (σ 2 (pn x9))) ∧ G9 = G) := by
  refine zMet_of (cc := cX2_group) (maxL := 2) (ret := (some .int)) (by decide) rfl (Nat.le_of_ble_eq_true rfl) ?_
  intro p e s m args below meth c C hmn
  refine zz_aload_n (pc := 0) C dX2_group_0 rfl ?_
  refine zz_iload_n (pc := 1) C dX2_group_1 rfl ?_
  refine zz_callV (pc := 2) C (q9_find l D hC hh) gX2_group_X2_find rfl 1 (by decide +kernel) ⟨Nat.le_of_ble_eq_true rfl, Nat.le_of_ble_eq_true rfl⟩ hC.x (ci := 2) rfl rfl rfl dX2_group_2 rfl (Nat.le_of_ble_eq_true rfl) rfl ⟨Nat.le_of_ble_eq_true rfl, Nat.le_of_ble_eq_true rfl⟩ ?_
  rintro v G9 ⟨rfl, rfl⟩
  have hth := hh
  obtain ⟨hx1, hx2, hx3⟩ := hth.at
  obtain ⟨f, hGa, hPF, _⟩ := hC.at (k := pn x9) hx3 hth.2.2
  refine zz_get (pc := 5) C in_X2_group_X1 (ci := 1) rfl 2 (by decide) (fl_X2_group_103) rfl dX2_group_5 hGa rfl ?_
  exact zz_ireturn (pc := 8) C dX2_group_8 rfl (Nat.le_of_ble_eq_true rfl) (Nat.le_of_ble_eq_true rfl) ⟨by rw [hPF.2.1], rfl⟩
set_option maxHeartbeats 4000000 in
set_option maxRecDepth 100000 in
theorem q9_session (l : Launch) (D : va_G) {B G : zG} {x tb ev : Nat} {A : Nat → Nat} {σ : zS} {q : List zEv} {h m0 : Nat} {x9 : Int32} (hC : zCl B x tb ev A σ q h m0 G) (hh : zHere σ x9) : zMet D l yX2_session wsX2_session ({ frames := 2, cells := 0, slots := 0, locals := 70 } : Room) [.ref x, .int x9] G (fun v G9 => v = some (.int (σ 3 (pn x9))) ∧ G9 = G) := by
  refine zMet_of (cc := cX2_session) (maxL := 2) (ret := (some .int)) (by decide) rfl (Nat.le_of_ble_eq_true rfl) ?_
  intro p e s m args below meth c C hmn
  refine zz_aload_n (pc := 0) C dX2_session_0 rfl ?_
  refine zz_iload_n (pc := 1) C dX2_session_1 rfl ?_
  refine zz_callV (pc := 2) C (q9_find l D hC hh) gX2_session_X2_find rfl 1 (by decide +kernel) ⟨Nat.le_of_ble_eq_true rfl, Nat.le_of_ble_eq_true rfl⟩ hC.x (ci := 2) rfl rfl rfl dX2_session_2 rfl (Nat.le_of_ble_eq_true rfl) rfl ⟨Nat.le_of_ble_eq_true rfl, Nat.le_of_ble_eq_true rfl⟩ ?_
  rintro v G9 ⟨rfl, rfl⟩
  have hth := hh
  obtain ⟨hx1, hx2, hx3⟩ := hth.at
  obtain ⟨f, hGa, hPF, _⟩ := hC.at (k := pn x9) hx3 hth.2.2
  refine zz_get (pc := 5) C in_X2_session_X1 (ci := 1) rfl 3 (by decide) (fl_X2_session_106) rfl dX2_session_5 hGa rfl ?_
  exact zz_ireturn (pc := 8) C dX2_session_8 rfl (Nat.le_of_ble_eq_true rfl) (Nat.le_of_ble_eq_true rfl) ⟨by rw [hPF.2.2.1], rfl⟩
set_option maxHeartbeats 4000000 in
set_option maxRecDepth 100000 in
theorem q9_pending (l : Launch) (D : va_G) {B G : zG} {x tb ev : Nat} {A : Nat → Nat} {σ : zS} {q : List zEv} {h m0 : Nat} {x9 : Int32} (hC : zCl B x tb ev A σ q h m0 G) (hh : zHere σ x9) : zMet D l yX2_pending wsX2_pending ({ frames := 2, cells := 0, slots := 0, locals := 70 } : Room) [.ref x, .int x9] G (fun v G9 => v = some (.int (σ 11 (pn x9))) ∧ G9 = G) := by
  refine zMet_of (cc := cX2_pending) (maxL := 2) (ret := (some .int)) (by decide) rfl (Nat.le_of_ble_eq_true rfl) ?_
  intro p e s m args below meth c C hmn
  refine zz_aload_n (pc := 0) C dX2_pending_0 rfl ?_
  refine zz_iload_n (pc := 1) C dX2_pending_1 rfl ?_
  refine zz_callV (pc := 2) C (q9_find l D hC hh) gX2_pending_X2_find rfl 1 (by decide +kernel) ⟨Nat.le_of_ble_eq_true rfl, Nat.le_of_ble_eq_true rfl⟩ hC.x (ci := 2) rfl rfl rfl dX2_pending_2 rfl (Nat.le_of_ble_eq_true rfl) rfl ⟨Nat.le_of_ble_eq_true rfl, Nat.le_of_ble_eq_true rfl⟩ ?_
  rintro v G9 ⟨rfl, rfl⟩
  have hth := hh
  obtain ⟨hx1, hx2, hx3⟩ := hth.at
  obtain ⟨f, hGa, hPF, _⟩ := hC.at (k := pn x9) hx3 hth.2.2
  refine zz_get (pc := 5) C in_X2_pending_X1 (ci := 1) rfl 15 (by decide) (fl_X2_pending_154) rfl dX2_pending_5 hGa rfl ?_
  exact zz_ireturn (pc := 8) C dX2_pending_8 rfl (Nat.le_of_ble_eq_true rfl) (Nat.le_of_ble_eq_true rfl) ⟨by rw [hPF.2.2.2.2.2.2.2.2.2.2.2.2.2.1], rfl⟩
set_option maxHeartbeats 4000000 in
set_option maxRecDepth 100000 in
theorem q9_caught (l : Launch) (D : va_G) {B G : zG} {x tb ev : Nat} {A : Nat → Nat} {σ : zS} {q : List zEv} {h m0 : Nat} {x9 : Int32} (hC : zCl B x tb ev A σ q h m0 G) (hh : zHere σ x9) : zMet D l yX2_caught wsX2_caught ({ frames := 2, cells := 0, slots := 0, locals := 70 } : Room) [.ref x, .int x9] G (fun v G9 => v = some (.int (σ 12 (pn x9))) ∧ G9 = G) := by
  refine zMet_of (cc := cX2_caught) (maxL := 2) (ret := (some .int)) (by decide) rfl (Nat.le_of_ble_eq_true rfl) ?_
  intro p e s m args below meth c C hmn
  refine zz_aload_n (pc := 0) C dX2_caught_0 rfl ?_
  refine zz_iload_n (pc := 1) C dX2_caught_1 rfl ?_
  refine zz_callV (pc := 2) C (q9_find l D hC hh) gX2_caught_X2_find rfl 1 (by decide +kernel) ⟨Nat.le_of_ble_eq_true rfl, Nat.le_of_ble_eq_true rfl⟩ hC.x (ci := 2) rfl rfl rfl dX2_caught_2 rfl (Nat.le_of_ble_eq_true rfl) rfl ⟨Nat.le_of_ble_eq_true rfl, Nat.le_of_ble_eq_true rfl⟩ ?_
  rintro v G9 ⟨rfl, rfl⟩
  have hth := hh
  obtain ⟨hx1, hx2, hx3⟩ := hth.at
  obtain ⟨f, hGa, hPF, _⟩ := hC.at (k := pn x9) hx3 hth.2.2
  refine zz_get (pc := 5) C in_X2_caught_X1 (ci := 1) rfl 16 (by decide) (fl_X2_caught_157) rfl dX2_caught_5 hGa rfl ?_
  exact zz_ireturn (pc := 8) C dX2_caught_8 rfl (Nat.le_of_ble_eq_true rfl) (Nat.le_of_ble_eq_true rfl) ⟨by rw [hPF.2.2.2.2.2.2.2.2.2.2.2.2.2.2.1], rfl⟩
set_option maxHeartbeats 4000000 in
set_option maxRecDepth 100000 in
theorem q9_waitResult (l : Launch) (D : va_G) {B G : zG} {x tb ev : Nat} {A : Nat → Nat} {σ : zS} {q : List zEv} {h m0 : Nat} {x9 : Int32} (hC : zCl B x tb ev A σ q h m0 G) (hh : zHere σ x9) : zMet D l yX2_waitResult wsX2_waitResult ({ frames := 2, cells := 0, slots := 0, locals := 70 } : Room) [.ref x, .int x9] G (fun v G9 => v = some (.int (σ 18 (pn x9))) ∧ G9 = G) := by
  refine zMet_of (cc := cX2_waitResult) (maxL := 2) (ret := (some .int)) (by decide) rfl (Nat.le_of_ble_eq_true rfl) ?_
  intro p e s m args below meth c C hmn
  refine zz_aload_n (pc := 0) C dX2_waitResult_0 rfl ?_
  refine zz_iload_n (pc := 1) C dX2_waitResult_1 rfl ?_
  refine zz_callV (pc := 2) C (q9_find l D hC hh) gX2_waitResult_X2_find rfl 1 (by decide +kernel) ⟨Nat.le_of_ble_eq_true rfl, Nat.le_of_ble_eq_true rfl⟩ hC.x (ci := 2) rfl rfl rfl dX2_waitResult_2 rfl (Nat.le_of_ble_eq_true rfl) rfl ⟨Nat.le_of_ble_eq_true rfl, Nat.le_of_ble_eq_true rfl⟩ ?_
  rintro v G9 ⟨rfl, rfl⟩
  have hth := hh
  obtain ⟨hx1, hx2, hx3⟩ := hth.at
  obtain ⟨f, hGa, hPF, _⟩ := hC.at (k := pn x9) hx3 hth.2.2
  refine zz_get (pc := 5) C in_X2_waitResult_X1 (ci := 1) rfl 17 (by decide) (fl_X2_waitResult_168) rfl dX2_waitResult_5 hGa rfl ?_
  exact zz_ireturn (pc := 8) C dX2_waitResult_8 rfl (Nat.le_of_ble_eq_true rfl) (Nat.le_of_ble_eq_true rfl) ⟨by rw [hPF.2.2.2.2.2.2.2.2.2.2.2.2.2.2.2.1], rfl⟩
set_option maxHeartbeats 4000000 in
set_option maxRecDepth 100000 in
theorem q9_reportedChild (l : Launch) (D : va_G) {B G : zG} {x tb ev : Nat} {A : Nat → Nat} {σ : zS} {q : List zEv} {h m0 : Nat} {x9 : Int32} (hC : zCl B x tb ev A σ q h m0 G) (hh : zHere σ x9) : zMet D l yX2_reportedChild wsX2_reportedChild ({ frames := 2, cells := 0, slots := 0, locals := 70 } : Room) [.ref x, .int x9] G (fun v G9 => v = some (.int (σ 19 (pn x9))) ∧ G9 = G) := by
  refine zMet_of (cc := cX2_reportedChild) (maxL := 2) (ret := (some .int)) (by decide) rfl (Nat.le_of_ble_eq_true rfl) ?_
  intro p e s m args below meth c C hmn
  refine zz_aload_n (pc := 0) C dX2_reportedChild_0 rfl ?_
  refine zz_iload_n (pc := 1) C dX2_reportedChild_1 rfl ?_
  refine zz_callV (pc := 2) C (q9_find l D hC hh) gX2_reportedChild_X2_find rfl 1 (by decide +kernel) ⟨Nat.le_of_ble_eq_true rfl, Nat.le_of_ble_eq_true rfl⟩ hC.x (ci := 2) rfl rfl rfl dX2_reportedChild_2 rfl (Nat.le_of_ble_eq_true rfl) rfl ⟨Nat.le_of_ble_eq_true rfl, Nat.le_of_ble_eq_true rfl⟩ ?_
  rintro v G9 ⟨rfl, rfl⟩
  have hth := hh
  obtain ⟨hx1, hx2, hx3⟩ := hth.at
  obtain ⟨f, hGa, hPF, _⟩ := hC.at (k := pn x9) hx3 hth.2.2
  refine zz_get (pc := 5) C in_X2_reportedChild_X1 (ci := 1) rfl 18 (by decide) (fl_X2_reportedChild_171) rfl dX2_reportedChild_5 hGa rfl ?_
  exact zz_ireturn (pc := 8) C dX2_reportedChild_8 rfl (Nat.le_of_ble_eq_true rfl) (Nat.le_of_ble_eq_true rfl) ⟨by rw [hPF.2.2.2.2.2.2.2.2.2.2.2.2.2.2.2.2.1], rfl⟩
set_option maxHeartbeats 4000000 in
set_option maxRecDepth 100000 in
theorem q9_reportedValue (l : Launch) (D : va_G) {B G : zG} {x tb ev : Nat} {A : Nat → Nat} {σ : zS} {q : List zEv} {h m0 : Nat} {x9 : Int32} (hC : zCl B x tb ev A σ q h m0 G) (hh : zHere σ x9) : zMet D l yX2_reportedValue wsX2_reportedValue ({ frames := 2, cells := 0, slots := 0, locals := 70 } : Room) [.ref x, .int x9] G (fun v G9 => v = some (.int (σ 20 (pn x9))) ∧ G9 = G) := by
  refine zMet_of (cc := cX2_reportedValue) (maxL := 2) (ret := (some .int)) (by decide) rfl (Nat.le_of_ble_eq_true rfl) ?_
  intro p e s m args below meth c C hmn
  refine zz_aload_n (pc := 0) C dX2_reportedValue_0 rfl ?_
  refine zz_iload_n (pc := 1) C dX2_reportedValue_1 rfl ?_
  refine zz_callV (pc := 2) C (q9_find l D hC hh) gX2_reportedValue_X2_find rfl 1 (by decide +kernel) ⟨Nat.le_of_ble_eq_true rfl, Nat.le_of_ble_eq_true rfl⟩ hC.x (ci := 2) rfl rfl rfl dX2_reportedValue_2 rfl (Nat.le_of_ble_eq_true rfl) rfl ⟨Nat.le_of_ble_eq_true rfl, Nat.le_of_ble_eq_true rfl⟩ ?_
  rintro v G9 ⟨rfl, rfl⟩
  have hth := hh
  obtain ⟨hx1, hx2, hx3⟩ := hth.at
  obtain ⟨f, hGa, hPF, _⟩ := hC.at (k := pn x9) hx3 hth.2.2
  refine zz_get (pc := 5) C in_X2_reportedValue_X1 (ci := 1) rfl 19 (by decide) (fl_X2_reportedValue_174) rfl dX2_reportedValue_5 hGa rfl ?_
  exact zz_ireturn (pc := 8) C dX2_reportedValue_8 rfl (Nat.le_of_ble_eq_true rfl) (Nat.le_of_ble_eq_true rfl) ⟨by rw [hPF.2.2.2.2.2.2.2.2.2.2.2.2.2.2.2.2.2], rfl⟩
set_option maxHeartbeats 4000000 in
set_option maxRecDepth 100000 in
theorem q9_state (l : Launch) (D : va_G) {B G : zG} {x tb ev : Nat} {A : Nat → Nat} {σ : zS} {q : List zEv} {h m0 : Nat} {x9 : Int32} (hC : zCl B x tb ev A σ q h m0 G) (hh : zHere σ x9) : zMet D l yX2_state wsX2_state ({ frames := 2, cells := 0, slots := 0, locals := 70 } : Room) [.ref x, .int x9] G (fun v G9 => v = some (.int (zCon σ (pn x9))) ∧ G9 = G) := by
  refine zMet_of (cc := cX2_state) (maxL := 2) (ret := (some .int)) (by decide) rfl (Nat.le_of_ble_eq_true rfl) ?_
  intro p e s m args below meth c C hmn
  refine zz_aload_n (pc := 0) C dX2_state_0 rfl ?_
  refine zz_iload_n (pc := 1) C dX2_state_1 rfl ?_
  refine zz_callV (pc := 2) C (q9_find l D hC hh) gX2_state_X2_find rfl 1 (by decide +kernel) ⟨Nat.le_of_ble_eq_true rfl, Nat.le_of_ble_eq_true rfl⟩ hC.x (ci := 2) rfl rfl rfl dX2_state_2 rfl (Nat.le_of_ble_eq_true rfl) rfl ⟨Nat.le_of_ble_eq_true rfl, Nat.le_of_ble_eq_true rfl⟩ ?_
  rintro v G9 ⟨rfl, rfl⟩
  have hth := hh
  obtain ⟨hx1, hx2, hx3⟩ := hth.at
  obtain ⟨f, hGa, hPF, hup⟩ := hC.at (k := pn x9) hx3 hth.2.2
  refine zz_callV (pc := 5) C (c_X1_condition l D hGa) gX2_state_X1_condition rfl 0 (by decide +kernel) ⟨Nat.le_of_ble_eq_true rfl, Nat.le_of_ble_eq_true rfl⟩ hGa (ci := 1) rfl rfl rfl dX2_state_5 rfl (Nat.le_of_ble_eq_true rfl) rfl ⟨Nat.le_of_ble_eq_true rfl, Nat.le_of_ble_eq_true rfl⟩ ?_
  rintro v G9 ⟨rfl, rfl⟩
  exact zz_ireturn (pc := 8) C dX2_state_8 rfl (Nat.le_of_ble_eq_true rfl) (Nat.le_of_ble_eq_true rfl) ⟨by rw [zCond_con hPF], rfl⟩
set_option maxHeartbeats 4000000 in
set_option maxRecDepth 100000 in
theorem q9_parent (l : Launch) (D : va_G) {B G : zG} {x tb ev : Nat} {A : Nat → Nat} {σ : zS} {q : List zEv} {h m0 : Nat} {x9 : Int32} (hC : zCl B x tb ev A σ q h m0 G) (hW : zWf σ) (hh : zHere σ x9) : zMet D l yX2_parent wsX2_parent ({ frames := 2, cells := 0, slots := 0, locals := 70 } : Room) [.ref x, .int x9] G (fun v G9 => v = some (.int (σ 1 (pn x9))) ∧ G9 = G) := by
  refine zMet_of (cc := cX2_parent) (maxL := 3) (ret := (some .int)) (by decide) rfl (Nat.le_of_ble_eq_true rfl) ?_
  intro p e s m args below meth c C hmn
  refine zz_aload_n (pc := 0) C dX2_parent_0 rfl ?_
  refine zz_iload_n (pc := 1) C dX2_parent_1 rfl ?_
  refine zz_callV (pc := 2) C (q9_find l D hC hh) gX2_parent_X2_find rfl 1 (by decide +kernel) ⟨Nat.le_of_ble_eq_true rfl, Nat.le_of_ble_eq_true rfl⟩ hC.x (ci := 2) rfl rfl rfl dX2_parent_2 rfl (Nat.le_of_ble_eq_true rfl) rfl ⟨Nat.le_of_ble_eq_true rfl, Nat.le_of_ble_eq_true rfl⟩ ?_
  rintro v G9 ⟨rfl, rfl⟩
  have hth := hh
  obtain ⟨hx1, hx2, hx3⟩ := hth.at
  obtain ⟨f, hGa, hPF, hup⟩ := hC.at (k := pn x9) hx3 hth.2.2
  by_cases hk1 : pn x9 = 1
  · rw [show zPar (zTA σ A) σ (pn x9) = .null from by rw [hk1]; exact zPar_1] at hGa
    refine zz_get (pc := 5) C in_X2_parent_X1 (ci := 1) rfl 1 (by decide) (fl_X2_parent_147) rfl dX2_parent_5 hGa rfl ?_
    refine zz_astoreN_n (pc := 8) C dX2_parent_8 (Nat.le_of_ble_eq_true rfl) ?_
    refine zz_aloadN_n (pc := 9) C dX2_parent_9 rfl ?_
    refine zz_ifnonnullN (pc := 10) C dX2_parent_10 ?_
    refine zz_iconst (pc := 13) C (v := -1) (by decide) dX2_parent_13 ?_
    refine zz_goto (pc := 14) C (tgt := 21) dX2_parent_14 (by decide) ?_
    exact zz_ireturn (pc := 21) C dX2_parent_21 rfl (Nat.le_of_ble_eq_true rfl) (Nat.le_of_ble_eq_true rfl) ⟨by rw [hk1, hW.x.2.1], rfl⟩
  · obtain ⟨j, hj, hj1, hj2, hj3, hj4, hj5⟩ := hW.par hth.2.2 hk1
    rw [zPar_n hk1 hj hj2 (zTA_y hj4)] at hGa
    obtain ⟨g, hGj, hPj, _⟩ := hC.at hj2 hj4
    refine zz_get (pc := 5) C in_X2_parent_X1 (ci := 1) rfl 1 (by decide) (fl_X2_parent_147) rfl dX2_parent_5 hGa rfl ?_
    refine zz_astore_n (pc := 8) C dX2_parent_8 (Nat.le_of_ble_eq_true rfl) ?_
    refine zz_aload_n (pc := 9) C dX2_parent_9 rfl ?_
    refine zz_ifnonnull (pc := 10) C (tgt := 17) dX2_parent_10 (by decide) ?_
    refine zz_aload_n (pc := 17) C dX2_parent_17 rfl ?_
    refine zz_get (pc := 18) C in_X2_parent_X1 (ci := 1) rfl 0 (by decide) (fl_X2_parent_151) rfl dX2_parent_18 hGj rfl ?_
    exact zz_ireturn (pc := 21) C dX2_parent_21 rfl (Nat.le_of_ble_eq_true rfl) (Nat.le_of_ble_eq_true rfl) ⟨by rw [hPj.1, hj], rfl⟩
set_option maxHeartbeats 4000000 in
set_option maxRecDepth 100000 in
theorem q9_exists (l : Launch) (D : va_G) {B G : zG} {x tb ev : Nat} {A : Nat → Nat} {σ : zS} {q : List zEv} {h m0 : Nat} {x9 : Int32} (hC : zCl B x tb ev A σ q h m0 G) (hrr : ¬ (x9 < 1 ∨ (40 : Int32) < x9)) : zMet D l yX2_exists wsX2_exists ({ frames := 2, cells := 0, slots := 0, locals := 70 } : Room) [.ref x, .int x9] G (fun v G9 => v = some (.int (zb (σ 0 (pn x9) ≠ 0))) ∧ G9 = G) := by
  refine zMet_of (cc := cX2_exists) (maxL := 2) (ret := (some .boolean)) (by decide) rfl (Nat.le_of_ble_eq_true rfl) ?_
  intro p e s m args below meth c C hmn
  refine zz_iload_n (pc := 0) C dX2_exists_0 rfl ?_
  refine zz_callS (pc := 1) C (q9_requireNumber l D hrr) gX2_exists_X2_requireNumber rfl 1 (by decide +kernel) ⟨Nat.le_of_ble_eq_true rfl, Nat.le_of_ble_eq_true rfl⟩ rfl dX2_exists_1 rfl (Nat.le_of_ble_eq_true rfl) rfl ⟨Nat.le_of_ble_eq_true rfl, Nat.le_of_ble_eq_true rfl⟩ ?_
  rintro v G9 ⟨rfl, rfl⟩
  refine zz_aload_n (pc := 4) C dX2_exists_4 rfl ?_
  refine zz_iload_n (pc := 5) C dX2_exists_5 rfl ?_
  have hz : 0 < x9 ∧ x9 ≤ 40 := ⟨z1le0 (fun u => hrr (Or.inl u)), Int32.not_lt.mp (fun u => hrr (Or.inr u))⟩
  refine zz_callV (pc := 6) C (c_clLook l D hC (x9 := x9)) gX2_exists_X2_lookUp rfl 1 (by decide +kernel) ⟨Nat.le_of_ble_eq_true rfl, Nat.le_of_ble_eq_true rfl⟩ hC.x (ci := 2) rfl rfl rfl dX2_exists_6 rfl (Nat.le_of_ble_eq_true rfl) rfl ⟨Nat.le_of_ble_eq_true rfl, Nat.le_of_ble_eq_true rfl⟩ ?_
  rintro v G9 ⟨(⟨hno, rfl⟩ | ⟨hth, rfl⟩), rfl⟩
  · skip
    refine zz_ifnullN (pc := 9) C (tgt := 16) dX2_exists_9 (by decide) ?_
    refine zz_iconst (pc := 16) C (v := 0) (by decide) dX2_exists_16 ?_
    exact zz_ireturn (pc := 17) C dX2_exists_17 rfl (Nat.le_of_ble_eq_true rfl) (Nat.le_of_ble_eq_true rfl) ⟨zvf (fun z => hno ⟨hz.1, hz.2, z⟩), rfl⟩
  · skip
    refine zz_ifnull (pc := 9) C dX2_exists_9 ?_
    refine zz_iconst (pc := 12) C (v := 1) (by decide) dX2_exists_12 ?_
    refine zz_goto (pc := 13) C (tgt := 17) dX2_exists_13 (by decide) ?_
    exact zz_ireturn (pc := 17) C dX2_exists_17 rfl (Nat.le_of_ble_eq_true rfl) (Nat.le_of_ble_eq_true rfl) ⟨zvt hth.2.2, rfl⟩
set_option maxHeartbeats 4000000 in
set_option maxRecDepth 100000 in
theorem q9_isOrphaned (l : Launch) (D : va_G) {B G : zG} {x tb ev : Nat} {A : Nat → Nat} {σ : zS} {q : List zEv} {h m0 : Nat} {x9 : Int32} (hC : zCl B x tb ev A σ q h m0 G) (hH : zHas σ) (hrr : ¬ (x9 < 1 ∨ (40 : Int32) < x9)) : zMet D l yX2_isOrphaned wsX2_isOrphaned ({ frames := 2, cells := 0, slots := 0, locals := 70 } : Room) [.ref x, .int x9] G (fun v G9 => v = some (.int (zb (zOrph σ x9))) ∧ G9 = G) := by
  refine zMet_of (cc := cX2_isOrphaned) (maxL := 2) (ret := (some .boolean)) (by decide) rfl (Nat.le_of_ble_eq_true rfl) ?_
  intro p e s m args below meth c C hmn
  refine zz_iload_n (pc := 0) C dX2_isOrphaned_0 rfl ?_
  refine zz_callS (pc := 1) C (q9_requireNumber l D hrr) gX2_isOrphaned_X2_requireNumber rfl 1 (by decide +kernel) ⟨Nat.le_of_ble_eq_true rfl, Nat.le_of_ble_eq_true rfl⟩ rfl dX2_isOrphaned_1 rfl (Nat.le_of_ble_eq_true rfl) rfl ⟨Nat.le_of_ble_eq_true rfl, Nat.le_of_ble_eq_true rfl⟩ ?_
  rintro v G9 ⟨rfl, rfl⟩
  obtain ⟨hx1, hx2, hx3⟩ := zIn40 (fun u => hrr (Or.inl u)) (fun u => hrr (Or.inr u))
  refine zz_aload_n (pc := 4) C dX2_isOrphaned_4 rfl ?_
  refine zz_callV (pc := 5) C (c_clAttG l D hC hH) gX2_isOrphaned_X2_attachedGroups rfl 0 (by decide +kernel) ⟨Nat.le_of_ble_eq_true rfl, Nat.le_of_ble_eq_true rfl⟩ hC.x (ci := 2) rfl rfl rfl dX2_isOrphaned_5 rfl (Nat.le_of_ble_eq_true rfl) rfl ⟨Nat.le_of_ble_eq_true rfl, Nat.le_of_ble_eq_true rfl⟩ ?_
  rintro v G9 ⟨w1, rfl, hw1, rfl⟩
  refine zz_iload_n (pc := 8) C dX2_isOrphaned_8 rfl ?_
  refine zz_callS (pc := 9) C (c_clCon l D (w := w1) (s9 := pn x9) (by omega) hx1) gX2_isOrphaned_X2_contains rfl 2 (by decide +kernel) ⟨Nat.le_of_ble_eq_true rfl, Nat.le_of_ble_eq_true rfl⟩ rfl dX2_isOrphaned_9 rfl (Nat.le_of_ble_eq_true rfl) rfl ⟨Nat.le_of_ble_eq_true rfl, Nat.le_of_ble_eq_true rfl⟩ ?_
  rintro v G9 ⟨rfl, rfl⟩
  refine zz_if_ne (pc := 12) C (tgt := 19) dX2_isOrphaned_12 (by decide) (fun hc12 => ?_) (fun hc12 => ?_)
  · refine zz_iconst (pc := 19) C (v := 0) (by decide) dX2_isOrphaned_19 ?_
    exact zz_ireturn (pc := 20) C dX2_isOrphaned_20 rfl (Nat.le_of_ble_eq_true rfl) (Nat.le_of_ble_eq_true rfl) ⟨zvf (fun z => (zAtS_o hw1 (by omega)).mp (zb_ne.mp hc12) (by rw [← hx1]; exact z)), rfl⟩
  · refine zz_iconst (pc := 15) C (v := 1) (by decide) dX2_isOrphaned_15 ?_
    refine zz_goto (pc := 16) C (tgt := 20) dX2_isOrphaned_16 (by decide) ?_
    exact zz_ireturn (pc := 20) C dX2_isOrphaned_20 rfl (Nat.le_of_ble_eq_true rfl) (Nat.le_of_ble_eq_true rfl) ⟨zvt (by have h9 := Classical.not_not.mp (fun z => zbn hc12 ((zAtS_o hw1 (g := pn x9) (by omega)).mpr z)); rw [← hx1] at h9; exact h9), rfl⟩
theorem zHere_n {σ : zS} {k : Nat} (h1 : 1 ≤ k) (h : k < 41) (h0 : σ 0 k ≠ 0) : zHere σ (nI k) := by
  refine ⟨?_, ?_, by rw [show pn (nI k) = k from nI_clamp (by omega)]; exact h0⟩
  · exact (nI_ltI (a := 0) (b := k) (by decide) (by omega)).mpr (by omega)
  · exact (nI_leI (a := k) (b := 40) (by omega) (by decide)).mpr (by omega)
theorem zNum_n {k : Nat} (h1 : 1 ≤ k) (h : k < 41) : ¬ (nI k < 1 ∨ (40 : Int32) < nI k) := by
  rintro (z | z)
  · have := (nI_ltI (a := k) (b := 1) (by omega) (by decide)).mp z
    omega
  · exact z40 (by omega) z
theorem q_group (l : Launch) (D : va_G) {B G : zG} {x tb ev : Nat} {A : Nat → Nat} {σ : zS} {q : List zEv} {h m0 : Nat} {k : Nat} (hC : zCl B x tb ev A σ q h m0 G) (h1 : 1 ≤ k) (hk : k < 41) (h0 : σ 0 k ≠ 0) : zMet D l yX2_group wsX2_group ({ frames := 2, cells := 0, slots := 0, locals := 70 } : Room) [.ref x, .int (nI k)] G (fun v G9 => v = some (.int (σ 2 k)) ∧ G9 = G) := by
  have e : pn (nI k) = k := nI_clamp (by omega)
  have := q9_group l D hC (zHere_n h1 hk h0)
  rw [e] at this
  exact this
theorem q_session (l : Launch) (D : va_G) {B G : zG} {x tb ev : Nat} {A : Nat → Nat} {σ : zS} {q : List zEv} {h m0 : Nat} {k : Nat} (hC : zCl B x tb ev A σ q h m0 G) (h1 : 1 ≤ k) (hk : k < 41) (h0 : σ 0 k ≠ 0) : zMet D l yX2_session wsX2_session ({ frames := 2, cells := 0, slots := 0, locals := 70 } : Room) [.ref x, .int (nI k)] G (fun v G9 => v = some (.int (σ 3 k)) ∧ G9 = G) := by
  have e : pn (nI k) = k := nI_clamp (by omega)
  have := q9_session l D hC (zHere_n h1 hk h0)
  rw [e] at this
  exact this
theorem q_pending (l : Launch) (D : va_G) {B G : zG} {x tb ev : Nat} {A : Nat → Nat} {σ : zS} {q : List zEv} {h m0 : Nat} {k : Nat} (hC : zCl B x tb ev A σ q h m0 G) (h1 : 1 ≤ k) (hk : k < 41) (h0 : σ 0 k ≠ 0) : zMet D l yX2_pending wsX2_pending ({ frames := 2, cells := 0, slots := 0, locals := 70 } : Room) [.ref x, .int (nI k)] G (fun v G9 => v = some (.int (σ 11 k)) ∧ G9 = G) := by
  have e : pn (nI k) = k := nI_clamp (by omega)
  have := q9_pending l D hC (zHere_n h1 hk h0)
  rw [e] at this
  exact this
theorem q_caught (l : Launch) (D : va_G) {B G : zG} {x tb ev : Nat} {A : Nat → Nat} {σ : zS} {q : List zEv} {h m0 : Nat} {k : Nat} (hC : zCl B x tb ev A σ q h m0 G) (h1 : 1 ≤ k) (hk : k < 41) (h0 : σ 0 k ≠ 0) : zMet D l yX2_caught wsX2_caught ({ frames := 2, cells := 0, slots := 0, locals := 70 } : Room) [.ref x, .int (nI k)] G (fun v G9 => v = some (.int (σ 12 k)) ∧ G9 = G) := by
  have e : pn (nI k) = k := nI_clamp (by omega)
  have := q9_caught l D hC (zHere_n h1 hk h0)
  rw [e] at this
  exact this
theorem q_waitResult (l : Launch) (D : va_G) {B G : zG} {x tb ev : Nat} {A : Nat → Nat} {σ : zS} {q : List zEv} {h m0 : Nat} {k : Nat} (hC : zCl B x tb ev A σ q h m0 G) (h1 : 1 ≤ k) (hk : k < 41) (h0 : σ 0 k ≠ 0) : zMet D l yX2_waitResult wsX2_waitResult ({ frames := 2, cells := 0, slots := 0, locals := 70 } : Room) [.ref x, .int (nI k)] G (fun v G9 => v = some (.int (σ 18 k)) ∧ G9 = G) := by
  have e : pn (nI k) = k := nI_clamp (by omega)
  have := q9_waitResult l D hC (zHere_n h1 hk h0)
  rw [e] at this
  exact this
theorem q_reportedChild (l : Launch) (D : va_G) {B G : zG} {x tb ev : Nat} {A : Nat → Nat} {σ : zS} {q : List zEv} {h m0 : Nat} {k : Nat} (hC : zCl B x tb ev A σ q h m0 G) (h1 : 1 ≤ k) (hk : k < 41) (h0 : σ 0 k ≠ 0) : zMet D l yX2_reportedChild wsX2_reportedChild ({ frames := 2, cells := 0, slots := 0, locals := 70 } : Room) [.ref x, .int (nI k)] G (fun v G9 => v = some (.int (σ 19 k)) ∧ G9 = G) := by
  have e : pn (nI k) = k := nI_clamp (by omega)
  have := q9_reportedChild l D hC (zHere_n h1 hk h0)
  rw [e] at this
  exact this
theorem q_reportedValue (l : Launch) (D : va_G) {B G : zG} {x tb ev : Nat} {A : Nat → Nat} {σ : zS} {q : List zEv} {h m0 : Nat} {k : Nat} (hC : zCl B x tb ev A σ q h m0 G) (h1 : 1 ≤ k) (hk : k < 41) (h0 : σ 0 k ≠ 0) : zMet D l yX2_reportedValue wsX2_reportedValue ({ frames := 2, cells := 0, slots := 0, locals := 70 } : Room) [.ref x, .int (nI k)] G (fun v G9 => v = some (.int (σ 20 k)) ∧ G9 = G) := by
  have e : pn (nI k) = k := nI_clamp (by omega)
  have := q9_reportedValue l D hC (zHere_n h1 hk h0)
  rw [e] at this
  exact this
theorem q_state (l : Launch) (D : va_G) {B G : zG} {x tb ev : Nat} {A : Nat → Nat} {σ : zS} {q : List zEv} {h m0 : Nat} {k : Nat} (hC : zCl B x tb ev A σ q h m0 G) (h1 : 1 ≤ k) (hk : k < 41) (h0 : σ 0 k ≠ 0) : zMet D l yX2_state wsX2_state ({ frames := 2, cells := 0, slots := 0, locals := 70 } : Room) [.ref x, .int (nI k)] G (fun v G9 => v = some (.int (zCon σ k)) ∧ G9 = G) := by
  have e : pn (nI k) = k := nI_clamp (by omega)
  have := q9_state l D hC (zHere_n h1 hk h0)
  rw [e] at this
  exact this
theorem q_parent (l : Launch) (D : va_G) {B G : zG} {x tb ev : Nat} {A : Nat → Nat} {σ : zS} {q : List zEv} {h m0 : Nat} {k : Nat} (hC : zCl B x tb ev A σ q h m0 G) (hW : zWf σ) (h1 : 1 ≤ k) (hk : k < 41) (h0 : σ 0 k ≠ 0) : zMet D l yX2_parent wsX2_parent ({ frames := 2, cells := 0, slots := 0, locals := 70 } : Room) [.ref x, .int (nI k)] G (fun v G9 => v = some (.int (σ 1 k)) ∧ G9 = G) := by
  have e : pn (nI k) = k := nI_clamp (by omega)
  have := q9_parent l D hC hW (zHere_n h1 hk h0)
  rw [e] at this
  exact this
theorem q_exists (l : Launch) (D : va_G) {B G : zG} {x tb ev : Nat} {A : Nat → Nat} {σ : zS} {q : List zEv} {h m0 : Nat} {k : Nat} (hC : zCl B x tb ev A σ q h m0 G) (h1 : 1 ≤ k) (hk : k < 41) : zMet D l yX2_exists wsX2_exists ({ frames := 2, cells := 0, slots := 0, locals := 70 } : Room) [.ref x, .int (nI k)] G (fun v G9 => v = some (.int (zb (σ 0 k ≠ 0))) ∧ G9 = G) := by
  have e : pn (nI k) = k := nI_clamp (by omega)
  have := q9_exists l D hC (zNum_n h1 hk)
  rw [e] at this
  exact this
theorem q_isOrphaned (l : Launch) (D : va_G) {B G : zG} {x tb ev : Nat} {A : Nat → Nat} {σ : zS} {q : List zEv} {h m0 : Nat} {k : Nat} (hC : zCl B x tb ev A σ q h m0 G) (hH : zHas σ) (h1 : 1 ≤ k) (hk : k < 41) : zMet D l yX2_isOrphaned wsX2_isOrphaned ({ frames := 2, cells := 0, slots := 0, locals := 70 } : Room) [.ref x, .int (nI k)] G (fun v G9 => v = some (.int (zb (zOrph σ (nI k)))) ∧ G9 = G) := q9_isOrphaned l D hC hH (zNum_n h1 hk)
