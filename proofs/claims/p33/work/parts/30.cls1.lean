/-! the system's own class: its methods -/
theorem zClsB.no {B G : zG} {x : Nat} {σ : zS} {q : List zEv} {h cap : Nat} {tb ev ka pa : Nat} {T : Nat → Option Nat} {F : Nat → Nat → Int32} {fk fp : Nat → Int32} {ck cp : Int32} (hC : zClsB B x σ q h cap G tb ev ka pa T F fk fp ck cp) {k : Nat} (hk : k < 41) (h0 : σ 0 k = 0) : T k = none := hC.2.2.2.2.1 k hk h0
theorem zClsB.th {B G : zG} {x : Nat} {σ : zS} {q : List zEv} {h cap : Nat} {tb ev ka pa : Nat} {T : Nat → Option Nat} {F : Nat → Nat → Int32} {fk fp : Nat → Int32} {ck cp : Int32} (hC : zClsB B x σ q h cap G tb ev ka pa T F fk fp ck cp) {k a : Nat} (hk : k < 41) (ha : T k = some a) : σ 0 k ≠ 0 ∧ G a = some (1, .inr (1, zPr (zPar T σ k) (F k))) ∧ zPF σ k (F k) := by
  have h0 : σ 0 k ≠ 0 := fun z => by rw [hC.no hk z] at ha; cases ha
  obtain ⟨b, h1, h2, h3⟩ := hC.2.2.2.2.2 k hk h0
  rw [ha] at h1
  cases h1
  exact ⟨h0, h2, h3⟩
section ZCR
variable {p : Program} {l : Launch} {e : Env} {R : Room} {s : State} {m : MethodId} {args : Array Value} {below : List Frame} {meth : Method} {c : Code} {D : va_G} {A : Nat → Prop} {cells slots : Nat} {Q : State → Prop} {G : zG} {pc : Nat} {L : List (Option Value)} {st : List Value}
variable {cc : ByteArray} {nL : Nat} {own : String} {Ts : List Cond} {ret : Option FieldType}
variable {B : zG} {x : Nat} {σ : zS} {q : List zEv} {h cap : Nat} {tb ev ka pa : Nat} {T : Nat → Option Nat} {F : Nat → Nat → Int32} {fk fp : Nat → Int32} {ck cp : Int32}
theorem zz_tald (C : zC p s m args meth c D A cc nL own Ts ret) (hC : zClsB B x σ q h cap G tb ev ka pa T F fk fp ck cp) (hdg : decode cc pc = .ok (.aaload, 1)) {k : Nat} (hk : k < 41) {i : Int32} (hi : i = nI k)
    (kn : σ 0 k = 0 → zV p l e R s m args below meth c D A cells slots Q G (pc + 1) L (.null :: st)) (kk : ∀ a : Nat, T k = some a → σ 0 k ≠ 0 → G a = some (1, .inr (1, zPr (zPar T σ k) (F k))) → zPF σ k (F k) → zV p l e R s m args below meth c D A cells slots Q G (pc + 1) L (.ref a :: st)) : zV p l e R s m args below meth c D A cells slots Q G pc L (.int i :: .ref tb :: st) := by
  subst hi
  have hn : (nI k).toNatClampNeg = k := nI_clamp (by omega)
  refine zz_aald C hdg hC.2.2.1 (vp_in_nI hk (by decide)) (fun z => kn ?_) (fun b z => ?_)
  · rw [hn] at z
    by_cases h0 : σ 0 k = 0
    · exact h0
    · obtain ⟨b, h1, _⟩ := hC.2.2.2.2.2 k hk h0
      rw [z] at h1
      cases h1
  · rw [hn] at z
    obtain ⟨h1, h2, h3⟩ := hC.th hk z
    exact kk b z h1 h2 h3
theorem zz_tlen (C : zC p s m args meth c D A cc nL own Ts ret) (hC : zClsB B x σ q h cap G tb ev ka pa T F fk fp ck cp) (hdg : decode cc pc = .ok (.arraylength, 1)) (kk : zV p l e R s m args below meth c D A cells slots Q G (pc + 1) L (.int (nI 41) :: st)) : zV p l e R s m args below meth c D A cells slots Q G pc L (.ref tb :: st) := zz_alen C hdg hC.2.2.1 kk
end ZCR
theorem z41i {i : Nat} (h : i < 41) : ¬ nI 41 ≤ nI i := fun z => by
  have := (nI_leI (a := 41) (b := i) (by decide) (by omega)).mp z
  omega
theorem z4141 : nI 41 ≤ nI 41 := by decide
theorem z0lt1 {x : Int32} (h : 0 < x) : ¬ x < 1 := fun q => by
  have h1 := Int32.lt_iff_toInt_lt.mp h
  have h2 := Int32.lt_iff_toInt_lt.mp q
  have h3 : (0 : Int32).toInt = 0 := by decide
  have h4 : (1 : Int32).toInt = 1 := by decide
  omega
theorem z1le0 {x : Int32} (h : ¬ x < 1) : 0 < x := Int32.lt_of_lt_of_le (show (0 : Int32) < 1 by decide) (Int32.not_lt.mp h)
theorem fl_X2_lookUp_11 : Cond.fieldLink RX2 11 "Signalpost" "table" "[LSignalpost$Proc;" ∈ wsX2_lookUp := by decide +kernel
theorem in_X2_lookUp_X2 : ∀ w ∈ u_ws RX2 TX2 4, w ∈ wsX2_lookUp := by decide +kernel
set_option maxHeartbeats 4000000 in
set_option maxRecDepth 100000 in
theorem c_X2_lookUp (l : Launch) (D : va_G) {B G : zG} {x : Nat} {σ : zS} {q : List zEv} {h cap : Nat} {tb ev ka pa : Nat} {T : Nat → Option Nat} {F : Nat → Nat → Int32} {fk fp : Nat → Int32} {ck cp : Int32} {x9 : Int32} (hC : zClsB B x σ q h cap G tb ev ka pa T F fk fp ck cp)  : zMet D l yX2_lookUp wsX2_lookUp ({ frames := 0, cells := 0, slots := 0, locals := 0 } : Room) [.ref x, .int x9] G (fun v G9 => ((¬ zHere σ x9 ∧ v = some .null) ∨ ∃ a, zHere σ x9 ∧ T (pn x9) = some a ∧ v = some (.ref a)) ∧ G9 = G) := by
  refine zMet_of (cc := cX2_lookUp) (maxL := 2) (ret := (some (.object "Signalpost$Proc"))) (by decide) rfl (Nat.le_of_ble_eq_true rfl) ?_
  intro p e s m args below meth c C hmn
  have hz1 : 0 < x9 → ¬ x9 < 1 := z0lt1
  have hz0 : ¬ x9 < 1 → 0 < x9 := z1le0
  refine zz_iload_n (pc := 0) C dX2_lookUp_0 rfl ?_
  refine zz_iconst (pc := 1) C (v := 1) (by decide) dX2_lookUp_1 ?_
  refine zz_icmp_lt (pc := 2) C (tgt := 20) dX2_lookUp_2 (by decide) (fun hc2 => ?_) (fun hc2 => ?_)
  · refine zz_null (pc := 20) C dX2_lookUp_20 ?_
    first
      | exact zz_areturn (pc := 21) C dX2_lookUp_21 (Or.inl ⟨_, rfl⟩) (Or.inl rfl) (Nat.le_refl _) (Nat.le_refl _) ⟨Or.inl ⟨fun z => hz1 z.1 hc2, rfl⟩, rfl⟩
      | exact zz_areturn (pc := 21) C dX2_lookUp_21 (Or.inl ⟨_, rfl⟩) (Or.inl rfl) (Nat.le_refl _) (Nat.le_refl _) ⟨Or.inl ⟨fun z => absurd z.2.1 (Int32.not_le.mpr hc8), rfl⟩, rfl⟩
      | exact zz_areturn (pc := 21) C dX2_lookUp_21 (Or.inl ⟨_, rfl⟩) (Or.inl rfl) (Nat.le_refl _) (Nat.le_refl _) ⟨Or.inl ⟨fun z => z.2.2 hno, rfl⟩, rfl⟩
  · refine zz_iload_n (pc := 5) C dX2_lookUp_5 rfl ?_
    refine zz_bipush (pc := 6) C (v := 40) (by decide) dX2_lookUp_6 ?_
    refine zz_icmp_gt (pc := 8) C (tgt := 20) dX2_lookUp_8 (by decide) (fun hc8 => ?_) (fun hc8 => ?_)
    · refine zz_null (pc := 20) C dX2_lookUp_20 ?_
      first
        | exact zz_areturn (pc := 21) C dX2_lookUp_21 (Or.inl ⟨_, rfl⟩) (Or.inl rfl) (Nat.le_refl _) (Nat.le_refl _) ⟨Or.inl ⟨fun z => hz1 z.1 hc2, rfl⟩, rfl⟩
        | exact zz_areturn (pc := 21) C dX2_lookUp_21 (Or.inl ⟨_, rfl⟩) (Or.inl rfl) (Nat.le_refl _) (Nat.le_refl _) ⟨Or.inl ⟨fun z => absurd z.2.1 (Int32.not_le.mpr hc8), rfl⟩, rfl⟩
        | exact zz_areturn (pc := 21) C dX2_lookUp_21 (Or.inl ⟨_, rfl⟩) (Or.inl rfl) (Nat.le_refl _) (Nat.le_refl _) ⟨Or.inl ⟨fun z => z.2.2 hno, rfl⟩, rfl⟩
    · refine zz_aload_n (pc := 11) C dX2_lookUp_11 rfl ?_
      refine zz_get (pc := 12) C in_X2_lookUp_X2 (ci := 2) rfl 0 (by decide) (fl_X2_lookUp_11) rfl dX2_lookUp_12 hC.2.1 rfl ?_
      refine zz_iload_n (pc := 15) C dX2_lookUp_15 rfl ?_
      refine zz_tald (pc := 16) C hC dX2_lookUp_16 (k := pn x9) (zIn40 hc2 hc8).2.2 (zIn40 hc2 hc8).1 (fun hno => ?_) (fun a9 hTa hth hGa hPF => ?_)
      · skip
        refine zz_goto (pc := 17) C (tgt := 21) dX2_lookUp_17 (by decide) ?_
        first
          | exact zz_areturn (pc := 21) C dX2_lookUp_21 (Or.inl ⟨_, rfl⟩) (Or.inl rfl) (Nat.le_refl _) (Nat.le_refl _) ⟨Or.inl ⟨fun z => hz1 z.1 hc2, rfl⟩, rfl⟩
          | exact zz_areturn (pc := 21) C dX2_lookUp_21 (Or.inl ⟨_, rfl⟩) (Or.inl rfl) (Nat.le_refl _) (Nat.le_refl _) ⟨Or.inl ⟨fun z => absurd z.2.1 (Int32.not_le.mpr hc8), rfl⟩, rfl⟩
          | exact zz_areturn (pc := 21) C dX2_lookUp_21 (Or.inl ⟨_, rfl⟩) (Or.inl rfl) (Nat.le_refl _) (Nat.le_refl _) ⟨Or.inl ⟨fun z => z.2.2 hno, rfl⟩, rfl⟩
      · skip
        refine zz_goto (pc := 17) C (tgt := 21) dX2_lookUp_17 (by decide) ?_
        exact zz_areturn (pc := 21) C dX2_lookUp_21 (Or.inl ⟨_, rfl⟩) (Or.inr ⟨_, rfl⟩) (Nat.le_refl _) (Nat.le_refl _) ⟨Or.inr ⟨a9, ⟨hz0 hc2, Int32.not_lt.mp hc8, hth⟩, hTa, rfl⟩, rfl⟩
theorem zPF_0 {σ : zS} {k : Nat} {f : Nat → Int32} (h : zPF σ k f) : f 0 = nI k := h.1
theorem fl_X2_remove_151 : Cond.fieldLink RX2 151 "Signalpost$Proc" "pid" "I" ∈ wsX2_remove := by decide +kernel
theorem fl_X2_remove_11 : Cond.fieldLink RX2 11 "Signalpost" "table" "[LSignalpost$Proc;" ∈ wsX2_remove := by decide +kernel
theorem in_X2_remove_X1 : ∀ w ∈ u_ws RX1 TX1 20, w ∈ wsX2_remove := by decide +kernel
theorem in_X2_remove_X2 : ∀ w ∈ u_ws RX2 TX2 4, w ∈ wsX2_remove := by decide +kernel
set_option maxHeartbeats 4000000 in
set_option maxRecDepth 100000 in
theorem c_X2_remove (l : Launch) (D : va_G) {B G : zG} {x : Nat} {σ : zS} {q : List zEv} {h cap : Nat} {tb ev ka pa : Nat} {T : Nat → Option Nat} {F : Nat → Nat → Int32} {fk fp : Nat → Int32} {ck cp : Int32} {k a9 : Nat} (hC : zClsB B x σ q h cap G tb ev ka pa T F fk fp ck cp) (hk : 1 ≤ k ∧ k < 41) (hTa : T k = some a9) : zMet D l yX2_remove wsX2_remove ({ frames := 0, cells := 0, slots := 0, locals := 0 } : Room) [.ref x, .ref a9] G (fun v G9 => v = none ∧ G9 = zU G tb (1, .inl (.object "Signalpost$Proc", 41, .inr (.inr (.inr (.inr (va_up T k none))))))) := by
  refine zMet_of (cc := cX2_remove) (maxL := 2) (ret := none) (by decide) rfl (Nat.le_of_ble_eq_true rfl) ?_
  intro p e s m args below meth c C hmn
  obtain ⟨hth, hGa, hPF⟩ := hC.th hk.2 hTa
  refine zz_aload_n (pc := 0) C dX2_remove_0 rfl ?_
  refine zz_get (pc := 1) C in_X2_remove_X1 (ci := 1) rfl 0 (by decide) (fl_X2_remove_151) rfl dX2_remove_1 hGa rfl ?_
  refine zz_iconst (pc := 4) C (v := 1) (by decide) dX2_remove_4 ?_
  refine zz_icmp_lt (pc := 5) C (tgt := 27) dX2_remove_5 (by decide) (fun hc5 => ?_) (fun hc5 => ?_)
  · exact absurd (show F k 0 < 1 from hc5) (by rw [hPF.1]; exact nI_nlt (a := k) (b := 1) hk.1 (by omega))
  · refine zz_aload_n (pc := 8) C dX2_remove_8 rfl ?_
    refine zz_get (pc := 9) C in_X2_remove_X1 (ci := 1) rfl 0 (by decide) (fl_X2_remove_151) rfl dX2_remove_9 hGa rfl ?_
    refine zz_bipush (pc := 12) C (v := 40) (by decide) dX2_remove_12 ?_
    refine zz_icmp_gt (pc := 14) C (tgt := 27) dX2_remove_14 (by decide) (fun hc14 => ?_) (fun hc14 => ?_)
    · exact absurd (show (40 : Int32) < F k 0 from hc14) (by rw [hPF.1]; exact z40 (by omega))
    · refine zz_aload_n (pc := 17) C dX2_remove_17 rfl ?_
      refine zz_get (pc := 18) C in_X2_remove_X2 (ci := 2) rfl 0 (by decide) (fl_X2_remove_11) rfl dX2_remove_18 hC.2.1 rfl ?_
      refine zz_aload_n (pc := 21) C dX2_remove_21 rfl ?_
      refine zz_get (pc := 22) C in_X2_remove_X1 (ci := 1) rfl 0 (by decide) (fl_X2_remove_151) rfl dX2_remove_22 hGa rfl ?_
      refine zz_null (pc := 25) C dX2_remove_25 ?_
      refine zz_aastN (pc := 26) C dX2_remove_26 hC.2.2.1 (by show vp_in (F k 0) 41; rw [hPF.1]; exact vp_in_nI hk.2 (by decide)) ?_
      exact zz_return (pc := 27) C dX2_remove_27 (Nat.le_refl _) (Nat.le_refl _) ⟨rfl, by rw [show (F k 0).toNatClampNeg = k from by rw [hPF.1]; exact nI_clamp (by omega)]⟩
theorem zlcmp1 {a b : Int64} : lg_cmp a b = 0 ↔ a = b := by
  unfold lg_cmp
  constructor
  · intro h
    split at h
    · cases h
    · split at h
      · assumption
      · cases h
  · rintro rfl
    rw [if_neg (Int64.lt_irrefl), if_pos rfl]

set_option maxHeartbeats 4000000 in
set_option maxRecDepth 100000 in
theorem c_X2_contains (l : Launch) (D : va_G)  {G : zG} {w : Int64} {s9 : Nat}  (hs : s9 < 64) : zMet D l yX2_contains wsX2_contains ({ frames := 0, cells := 0, slots := 0, locals := 0 } : Room) [.long w, .int (nI s9)] G (fun v G9 => v = some (.int (zb (zlbit w s9 = true))) ∧ G9 = G) := by
  refine zMet_of (cc := cX2_contains) (maxL := 3) (ret := (some .boolean)) (by decide) rfl (Nat.le_of_ble_eq_true rfl) ?_
  intro p e s m args below meth c C hmn
  refine zz_lload_n (pc := 0) C dX2_contains_0 rfl ?_
  refine zz_iload_n (pc := 1) C dX2_contains_1 rfl ?_
  refine zz_lshr (pc := 2) C dX2_contains_2 ?_
  refine zz_lconst (pc := 3) C (v := 1) rfl dX2_contains_3 ?_
  refine zz_land (pc := 4) C dX2_contains_4 ?_
  refine zz_lconst (pc := 5) C (v := 1) rfl dX2_contains_5 ?_
  refine zz_lcmp (pc := 6) C dX2_contains_6 ?_
  refine zz_if_ne (pc := 7) C (tgt := 14) dX2_contains_7 (by decide) (fun hc7 => ?_) (fun hc7 => ?_)
  · refine zz_iconst (pc := 14) C (v := 0) (by decide) dX2_contains_14 ?_
    first
      | exact zz_ireturn (pc := 15) C dX2_contains_15 (by first | rfl | decide | exact zb_nar) (Nat.le_refl _) (Nat.le_refl _) ⟨zvt ((zlbt hs).mp (zlcmp1.mp (Classical.not_not.mp hc7))), rfl⟩
      | exact zz_ireturn (pc := 15) C dX2_contains_15 (by first | rfl | decide | exact zb_nar) (Nat.le_refl _) (Nat.le_refl _) ⟨zvf (fun z => hc7 (zlcmp1.mpr ((zlbt hs).mpr z))), rfl⟩
  · refine zz_iconst (pc := 10) C (v := 1) (by decide) dX2_contains_10 ?_
    refine zz_goto (pc := 11) C (tgt := 15) dX2_contains_11 (by decide) ?_
    first
      | exact zz_ireturn (pc := 15) C dX2_contains_15 (by first | rfl | decide | exact zb_nar) (Nat.le_refl _) (Nat.le_refl _) ⟨zvt ((zlbt hs).mp (zlcmp1.mp (Classical.not_not.mp hc7))), rfl⟩
      | exact zz_ireturn (pc := 15) C dX2_contains_15 (by first | rfl | decide | exact zb_nar) (Nat.le_refl _) (Nat.le_refl _) ⟨zvf (fun z => hc7 (zlcmp1.mpr ((zlbt hs).mpr z))), rfl⟩
theorem zCls_top2 {B : zG} {x : Nat} {σ : zS} {q : List zEv} {h cap : Nat} {G : zG} {tb ev ka pa : Nat} {T : Nat → Option Nat} {F : Nat → Nat → Int32} {fk fp : Nat → Int32} {ck cp a b : Int32} (hC : zClsB B x σ q h cap G tb ev ka pa T F fk fp ck cp) : zClsB B x (zu (zu σ 21 0 a) 22 0 b) q h cap (zU G x (1, .inr (2, [.ref tb, .ref ev, .int a, .int b]))) tb ev ka pa T F fk fp ck cp := by
  have h9 := zCls_top (σ' := zu (zu σ 21 0 a) 22 0 b) hC (fun f j h1 h2 => by rw [zu_off h2, zu_off h1])
  exact h9
theorem fl_X2_freeTerminal_22 : Cond.fieldLink RX2 22 "Signalpost" "terminalHolder" "I" ∈ wsX2_freeTerminal := by decide +kernel
theorem fl_X2_freeTerminal_26 : Cond.fieldLink RX2 26 "Signalpost" "foregroundGroup" "I" ∈ wsX2_freeTerminal := by decide +kernel
theorem in_X2_freeTerminal_X2 : ∀ w ∈ u_ws RX2 TX2 4, w ∈ wsX2_freeTerminal := by decide +kernel
set_option maxHeartbeats 4000000 in
set_option maxRecDepth 100000 in
theorem c_X2_freeTerminal (l : Launch) (D : va_G) {B G : zG} {x : Nat} {σ : zS} {q : List zEv} {h cap : Nat} {tb ev ka pa : Nat} {T : Nat → Option Nat} {F : Nat → Nat → Int32} {fk fp : Nat → Int32} {ck cp : Int32}  (hC : zClsB B x σ q h cap G tb ev ka pa T F fk fp ck cp)  : zMet D l yX2_freeTerminal wsX2_freeTerminal ({ frames := 0, cells := 0, slots := 0, locals := 0 } : Room) [.ref x] G (fun v G9 => v = none ∧ zClsB B x (zFreeT σ) q h cap G9 tb ev ka pa T F fk fp ck cp) := by
  refine zMet_of (cc := cX2_freeTerminal) (maxL := 1) (ret := none) (by decide) rfl (Nat.le_of_ble_eq_true rfl) ?_
  intro p e s m args below meth c C hmn
  refine zz_aload_n (pc := 0) C dX2_freeTerminal_0 rfl ?_
  refine zz_iconst (pc := 1) C (v := -1) (by decide) dX2_freeTerminal_1 ?_
  refine zz_put (pc := 2) C in_X2_freeTerminal_X2 tyX2 tyX2_ok nmX2 (ci := 2) (t := 1) rfl 2 (by decide) fl_X2_freeTerminal_22 rfl rfl dX2_freeTerminal_2 hC.2.1 rfl rfl (Nat.le_of_ble_eq_true rfl) ?_
  refine zz_aload_n (pc := 5) C dX2_freeTerminal_5 rfl ?_
  refine zz_iconst (pc := 6) C (v := -1) (by decide) dX2_freeTerminal_6 ?_
  refine zz_put (pc := 7) C in_X2_freeTerminal_X2 tyX2 tyX2_ok nmX2 (ci := 2) (t := 1) rfl 3 (by decide) fl_X2_freeTerminal_26 rfl rfl dX2_freeTerminal_7 zU_self rfl rfl (Nat.le_of_ble_eq_true rfl) ?_
  exact zz_return (pc := 10) C dX2_freeTerminal_10 (Nat.le_refl _) (Nat.le_refl _) ⟨rfl, by rw [zU_zU]; exact zCls_top2 hC⟩
theorem fl_X2_isGroupOfAny_11 : Cond.fieldLink RX2 11 "Signalpost" "table" "[LSignalpost$Proc;" ∈ wsX2_isGroupOfAny := by decide +kernel
theorem fl_X2_isGroupOfAny_103 : Cond.fieldLink RX2 103 "Signalpost$Proc" "group" "I" ∈ wsX2_isGroupOfAny := by decide +kernel
theorem in_X2_isGroupOfAny_X1 : ∀ w ∈ u_ws RX1 TX1 20, w ∈ wsX2_isGroupOfAny := by decide +kernel
theorem in_X2_isGroupOfAny_X2 : ∀ w ∈ u_ws RX2 TX2 4, w ∈ wsX2_isGroupOfAny := by decide +kernel
set_option maxHeartbeats 4000000 in
set_option maxRecDepth 100000 in
theorem c_X2_isGroupOfAny (l : Launch) (D : va_G) {B G : zG} {x : Nat} {σ : zS} {q : List zEv} {h cap : Nat} {tb ev ka pa : Nat} {T : Nat → Option Nat} {F : Nat → Nat → Int32} {fk fp : Nat → Int32} {ck cp : Int32} {g9 : Int32} (hC : zClsB B x σ q h cap G tb ev ka pa T F fk fp ck cp)  : zMet D l yX2_isGroupOfAny wsX2_isGroupOfAny ({ frames := 0, cells := 0, slots := 0, locals := 0 } : Room) [.ref x, .int g9] G (fun v G9 => v = some (.int (zb (zIsGrp σ g9 41))) ∧ G9 = G) := by
  refine zMet_of (cc := cX2_isGroupOfAny) (maxL := 6) (ret := (some .boolean)) (by decide) rfl (Nat.le_of_ble_eq_true rfl) ?_
  intro p e s m args below meth c C hmn
  have loop : ∀ (n i : Nat), i + n = 41 → (∀ k, k < i → ¬ (σ 0 k ≠ 0 ∧ σ 2 k = g9)) → zV p l e ({ frames := 0, cells := 0, slots := 0, locals := 0 } : Room) s m args below meth c D (zA G s.heap.size) 0 0 (zZ below D G (fun v G9 => v = some (.int (zb (zIsGrp σ g9 41))) ∧ G9 = G) args s ({ frames := 0, cells := 0, slots := 0, locals := 0 } : Room)) G 11 [some (.ref x), some (.int g9), some (.ref tb), some (.int (nI 41)), some (.int (nI (i))), none] [] := by
    intro n
    induction n with
    | zero =>
      intro i hi hinv
      have hi41 : i = 41 := by omega
      subst hi41
      refine zz_iload (pc := 11) C dX2_isGroupOfAny_11 rfl ?_
      refine zz_iload_n (pc := 13) C dX2_isGroupOfAny_13 rfl ?_
      refine zz_icmp_ge (pc := 14) C (tgt := 45) dX2_isGroupOfAny_14 (by decide) (fun hc14 => ?_) (fun hc14 => ?_)
      · refine zz_iconst (pc := 45) C (v := 0) (by decide) dX2_isGroupOfAny_45 ?_
        first
          | exact zz_ireturn (pc := 46) C dX2_isGroupOfAny_46 (by first | rfl | decide | exact zb_nar) (Nat.le_refl _) (Nat.le_refl _) ⟨zvf (fun z => z hinv), rfl⟩
      · exact absurd z4141 hc14
    | succ n ih =>
      intro i hi hinv
      refine zz_iload (pc := 11) C dX2_isGroupOfAny_11 rfl ?_
      refine zz_iload_n (pc := 13) C dX2_isGroupOfAny_13 rfl ?_
      refine zz_icmp_ge (pc := 14) C (tgt := 45) dX2_isGroupOfAny_14 (by decide) (fun hc14 => ?_) (fun hc14 => ?_)
      · exact absurd hc14 (z41i (by omega))
      · refine zz_aload_n (pc := 17) C dX2_isGroupOfAny_17 rfl ?_
        refine zz_iload (pc := 18) C dX2_isGroupOfAny_18 rfl ?_
        refine zz_tald (pc := 20) C hC dX2_isGroupOfAny_20 (k := i) (by omega) rfl (fun hno => ?_) (fun a9 hTa hth hGa hPF => ?_)
        · skip
          refine zz_astoreN (pc := 21) C dX2_isGroupOfAny_21 (Nat.le_of_ble_eq_true rfl) ?_
          refine zz_aloadN (pc := 23) C dX2_isGroupOfAny_23 rfl ?_
          refine zz_ifnullN (pc := 25) C (tgt := 39) dX2_isGroupOfAny_25 (by decide) ?_
          refine zz_iinc (pc := 39) C dX2_isGroupOfAny_39 rfl ?_
          refine zz_goto (pc := 42) C (tgt := 11) dX2_isGroupOfAny_42 (by decide) ?_
          first
            | exact zV.less (L' := [some (.ref x), some (.int g9), some (.ref tb), some (.int (nI 41)), some (.int (nI (i + 1))), none]) ⟨rfl, rfl, rfl, rfl, zvi (z1i i), trivial⟩ (ih (i + 1) (by omega) (zAll_succ.mpr ⟨hinv, fun z => z.1 hno⟩))
            | exact zV.less (L' := [some (.ref x), some (.int g9), some (.ref tb), some (.int (nI 41)), some (.int (nI (i + 1))), none]) ⟨rfl, rfl, rfl, rfl, zvi (z1i i), trivial⟩ (ih (i + 1) (by omega) (zAll_succ.mpr ⟨hinv, fun z => hc34 (hPF.2.1.trans z.2)⟩))
        · skip
          refine zz_astore (pc := 21) C dX2_isGroupOfAny_21 (Nat.le_of_ble_eq_true rfl) ?_
          refine zz_aload (pc := 23) C dX2_isGroupOfAny_23 rfl ?_
          refine zz_ifnull (pc := 25) C dX2_isGroupOfAny_25 ?_
          refine zz_aload (pc := 28) C dX2_isGroupOfAny_28 rfl ?_
          refine zz_get (pc := 30) C in_X2_isGroupOfAny_X1 (ci := 1) rfl 2 (by decide) (fl_X2_isGroupOfAny_103) rfl dX2_isGroupOfAny_30 hGa rfl ?_
          refine zz_iload_n (pc := 33) C dX2_isGroupOfAny_33 rfl ?_
          refine zz_icmp_ne (pc := 34) C (tgt := 39) dX2_isGroupOfAny_34 (by decide) (fun hc34 => ?_) (fun hc34 => ?_)
          · refine zz_iinc (pc := 39) C dX2_isGroupOfAny_39 rfl ?_
            refine zz_goto (pc := 42) C (tgt := 11) dX2_isGroupOfAny_42 (by decide) ?_
            first
              | exact zV.less (L' := [some (.ref x), some (.int g9), some (.ref tb), some (.int (nI 41)), some (.int (nI (i + 1))), none]) ⟨rfl, rfl, rfl, rfl, zvi (z1i i), trivial⟩ (ih (i + 1) (by omega) (zAll_succ.mpr ⟨hinv, fun z => z.1 hno⟩))
              | exact zV.less (L' := [some (.ref x), some (.int g9), some (.ref tb), some (.int (nI 41)), some (.int (nI (i + 1))), none]) ⟨rfl, rfl, rfl, rfl, zvi (z1i i), trivial⟩ (ih (i + 1) (by omega) (zAll_succ.mpr ⟨hinv, fun z => hc34 (hPF.2.1.trans z.2)⟩))
          · refine zz_iconst (pc := 37) C (v := 1) (by decide) dX2_isGroupOfAny_37 ?_
            first
              | exact zz_ireturn (pc := 38) C dX2_isGroupOfAny_38 (by first | rfl | decide | exact zb_nar) (Nat.le_refl _) (Nat.le_refl _) ⟨zvt (fun z => z i (by omega) ⟨hth, hPF.2.1.symm.trans (Classical.not_not.mp hc34)⟩), rfl⟩
  refine zz_aload_n (pc := 0) C dX2_isGroupOfAny_0 rfl ?_
  refine zz_get (pc := 1) C in_X2_isGroupOfAny_X2 (ci := 2) rfl 0 (by decide) (fl_X2_isGroupOfAny_11) rfl dX2_isGroupOfAny_1 hC.2.1 rfl ?_
  refine zz_astore_n (pc := 4) C dX2_isGroupOfAny_4 (Nat.le_of_ble_eq_true rfl) ?_
  refine zz_aload_n (pc := 5) C dX2_isGroupOfAny_5 rfl ?_
  refine zz_tlen (pc := 6) C hC dX2_isGroupOfAny_6 ?_
  refine zz_istore_n (pc := 7) C dX2_isGroupOfAny_7 (Nat.le_of_ble_eq_true rfl) ?_
  refine zz_iconst (pc := 8) C (v := 0) (by decide) dX2_isGroupOfAny_8 ?_
  refine zz_istore (pc := 9) C dX2_isGroupOfAny_9 (Nat.le_of_ble_eq_true rfl) ?_
  exact zV.less (L' := [some (.ref x), some (.int g9), some (.ref tb), some (.int (nI 41)), some (.int (nI (0))), none]) ⟨rfl, rfl, rfl, rfl, rfl, trivial⟩ (loop 41 0 rfl (fun k hk => absurd hk (by omega)))
theorem zMem_f {σ : zS} {k : Nat} {f : Nat → Int32} {g : Int32} (h : zPF σ k f) (h0 : σ 0 k ≠ 0) : (f 2 = g ∧ f 5 = 0) ↔ zMem σ k g := by
  unfold zMem
  rw [h.2.1, h.2.2.2.2.1]
  exact ⟨fun z => ⟨h0, z.2, z.1⟩, fun z => ⟨z.2.2, z.2.1⟩⟩
theorem fl_X2_hasMemberIn_11 : Cond.fieldLink RX2 11 "Signalpost" "table" "[LSignalpost$Proc;" ∈ wsX2_hasMemberIn := by decide +kernel
theorem fl_X2_hasMemberIn_106 : Cond.fieldLink RX2 106 "Signalpost$Proc" "session" "I" ∈ wsX2_hasMemberIn := by decide +kernel
theorem in_X2_hasMemberIn_X1 : ∀ w ∈ u_ws RX1 TX1 20, w ∈ wsX2_hasMemberIn := by decide +kernel
theorem in_X2_hasMemberIn_X2 : ∀ w ∈ u_ws RX2 TX2 4, w ∈ wsX2_hasMemberIn := by decide +kernel
set_option maxHeartbeats 4000000 in
set_option maxRecDepth 100000 in
theorem c_X2_hasMemberIn (l : Launch) (D : va_G) {B G : zG} {x : Nat} {σ : zS} {q : List zEv} {h cap : Nat} {tb ev ka pa : Nat} {T : Nat → Option Nat} {F : Nat → Nat → Int32} {fk fp : Nat → Int32} {ck cp : Int32} {g9 s9 : Int32} (hC : zClsB B x σ q h cap G tb ev ka pa T F fk fp ck cp)  : zMet D l yX2_hasMemberIn wsX2_hasMemberIn ({ frames := 1, cells := 0, slots := 0, locals := 21 } : Room) [.ref x, .int g9, .int s9] G (fun v G9 => v = some (.int (zb (zIsIn σ g9 s9 41))) ∧ G9 = G) := by
  refine zMet_of (cc := cX2_hasMemberIn) (maxL := 7) (ret := (some .boolean)) (by decide) rfl (Nat.le_of_ble_eq_true rfl) ?_
  intro p e s m args below meth c C hmn
  have loop : ∀ (n i : Nat), i + n = 41 → (∀ k, k < i → ¬ (zMem σ k g9 ∧ σ 3 k = s9)) → zV p l e ({ frames := 1, cells := 0, slots := 0, locals := 21 } : Room) s m args below meth c D (zA G s.heap.size) 0 0 (zZ below D G (fun v G9 => v = some (.int (zb (zIsIn σ g9 s9 41))) ∧ G9 = G) args s ({ frames := 1, cells := 0, slots := 0, locals := 21 } : Room)) G 12 [some (.ref x), some (.int g9), some (.int s9), some (.ref tb), some (.int (nI 41)), some (.int (nI (i))), none] [] := by
    intro n
    induction n with
    | zero =>
      intro i hi hinv
      have hi41 : i = 41 := by omega
      subst hi41
      refine zz_iload (pc := 12) C dX2_hasMemberIn_12 rfl ?_
      refine zz_iload (pc := 14) C dX2_hasMemberIn_14 rfl ?_
      refine zz_icmp_ge (pc := 16) C (tgt := 56) dX2_hasMemberIn_16 (by decide) (fun hc16 => ?_) (fun hc16 => ?_)
      · refine zz_iconst (pc := 56) C (v := 0) (by decide) dX2_hasMemberIn_56 ?_
        first
          | exact zz_ireturn (pc := 57) C dX2_hasMemberIn_57 (by first | rfl | decide | exact zb_nar) (Nat.le_refl _) (Nat.le_refl _) ⟨zvf (fun z => z hinv), rfl⟩
      · exact absurd z4141 hc16
    | succ n ih =>
      intro i hi hinv
      refine zz_iload (pc := 12) C dX2_hasMemberIn_12 rfl ?_
      refine zz_iload (pc := 14) C dX2_hasMemberIn_14 rfl ?_
      refine zz_icmp_ge (pc := 16) C (tgt := 56) dX2_hasMemberIn_16 (by decide) (fun hc16 => ?_) (fun hc16 => ?_)
      · exact absurd hc16 (z41i (by omega))
      · refine zz_aload_n (pc := 19) C dX2_hasMemberIn_19 rfl ?_
        refine zz_iload (pc := 20) C dX2_hasMemberIn_20 rfl ?_
        refine zz_tald (pc := 22) C hC dX2_hasMemberIn_22 (k := i) (by omega) rfl (fun hno => ?_) (fun a9 hTa hth hGa hPF => ?_)
        · skip
          refine zz_astoreN (pc := 23) C dX2_hasMemberIn_23 (Nat.le_of_ble_eq_true rfl) ?_
          refine zz_aloadN (pc := 25) C dX2_hasMemberIn_25 rfl ?_
          refine zz_ifnullN (pc := 27) C (tgt := 50) dX2_hasMemberIn_27 (by decide) ?_
          refine zz_iinc (pc := 50) C dX2_hasMemberIn_50 rfl ?_
          refine zz_goto (pc := 53) C (tgt := 12) dX2_hasMemberIn_53 (by decide) ?_
          first
            | exact zV.less (L' := [some (.ref x), some (.int g9), some (.int s9), some (.ref tb), some (.int (nI 41)), some (.int (nI (i + 1))), none]) ⟨rfl, rfl, rfl, rfl, rfl, zvi (z1i i), trivial⟩ (ih (i + 1) (by omega) (zAll_succ.mpr ⟨hinv, fun z => z.1.1 hno⟩))
            | exact zV.less (L' := [some (.ref x), some (.int g9), some (.int s9), some (.ref tb), some (.int (nI 41)), some (.int (nI (i + 1))), none]) ⟨rfl, rfl, rfl, rfl, rfl, zvi (z1i i), trivial⟩ (ih (i + 1) (by omega) (zAll_succ.mpr ⟨hinv, fun z => zb_eq.mp hc36 ((zMem_f hPF hth).mpr z.1)⟩))
            | exact zV.less (L' := [some (.ref x), some (.int g9), some (.int s9), some (.ref tb), some (.int (nI 41)), some (.int (nI (i + 1))), none]) ⟨rfl, rfl, rfl, rfl, rfl, zvi (z1i i), trivial⟩ (ih (i + 1) (by omega) (zAll_succ.mpr ⟨hinv, fun z => hc45 (hPF.2.2.1.trans z.2)⟩))
        · skip
          refine zz_astore (pc := 23) C dX2_hasMemberIn_23 (Nat.le_of_ble_eq_true rfl) ?_
          refine zz_aload (pc := 25) C dX2_hasMemberIn_25 rfl ?_
          refine zz_ifnull (pc := 27) C dX2_hasMemberIn_27 ?_
          refine zz_aload (pc := 30) C dX2_hasMemberIn_30 rfl ?_
          refine zz_iload_n (pc := 32) C dX2_hasMemberIn_32 rfl ?_
          refine zz_callV (pc := 33) C (c_X1_isMemberOf l D (n := g9) hGa) gX2_hasMemberIn_X1_isMemberOf rfl 1 (by decide +kernel) ⟨Nat.le_of_ble_eq_true rfl, Nat.le_of_ble_eq_true rfl⟩ hGa (ci := 1) rfl rfl rfl dX2_hasMemberIn_33 rfl (Nat.le_of_ble_eq_true rfl) rfl ⟨Nat.le_of_ble_eq_true rfl, Nat.le_of_ble_eq_true rfl⟩ ?_
          rintro v G9 ⟨rfl, rfl⟩
          refine zz_if_eq (pc := 36) C (tgt := 50) dX2_hasMemberIn_36 (by decide) (fun hc36 => ?_) (fun hc36 => ?_)
          · refine zz_iinc (pc := 50) C dX2_hasMemberIn_50 rfl ?_
            refine zz_goto (pc := 53) C (tgt := 12) dX2_hasMemberIn_53 (by decide) ?_
            first
              | exact zV.less (L' := [some (.ref x), some (.int g9), some (.int s9), some (.ref tb), some (.int (nI 41)), some (.int (nI (i + 1))), none]) ⟨rfl, rfl, rfl, rfl, rfl, zvi (z1i i), trivial⟩ (ih (i + 1) (by omega) (zAll_succ.mpr ⟨hinv, fun z => z.1.1 hno⟩))
              | exact zV.less (L' := [some (.ref x), some (.int g9), some (.int s9), some (.ref tb), some (.int (nI 41)), some (.int (nI (i + 1))), none]) ⟨rfl, rfl, rfl, rfl, rfl, zvi (z1i i), trivial⟩ (ih (i + 1) (by omega) (zAll_succ.mpr ⟨hinv, fun z => zb_eq.mp hc36 ((zMem_f hPF hth).mpr z.1)⟩))
              | exact zV.less (L' := [some (.ref x), some (.int g9), some (.int s9), some (.ref tb), some (.int (nI 41)), some (.int (nI (i + 1))), none]) ⟨rfl, rfl, rfl, rfl, rfl, zvi (z1i i), trivial⟩ (ih (i + 1) (by omega) (zAll_succ.mpr ⟨hinv, fun z => hc45 (hPF.2.2.1.trans z.2)⟩))
          · refine zz_aload (pc := 39) C dX2_hasMemberIn_39 rfl ?_
            refine zz_get (pc := 41) C in_X2_hasMemberIn_X1 (ci := 1) rfl 3 (by decide) (fl_X2_hasMemberIn_106) rfl dX2_hasMemberIn_41 hGa rfl ?_
            refine zz_iload_n (pc := 44) C dX2_hasMemberIn_44 rfl ?_
            refine zz_icmp_ne (pc := 45) C (tgt := 50) dX2_hasMemberIn_45 (by decide) (fun hc45 => ?_) (fun hc45 => ?_)
            · refine zz_iinc (pc := 50) C dX2_hasMemberIn_50 rfl ?_
              refine zz_goto (pc := 53) C (tgt := 12) dX2_hasMemberIn_53 (by decide) ?_
              first
                | exact zV.less (L' := [some (.ref x), some (.int g9), some (.int s9), some (.ref tb), some (.int (nI 41)), some (.int (nI (i + 1))), none]) ⟨rfl, rfl, rfl, rfl, rfl, zvi (z1i i), trivial⟩ (ih (i + 1) (by omega) (zAll_succ.mpr ⟨hinv, fun z => z.1.1 hno⟩))
                | exact zV.less (L' := [some (.ref x), some (.int g9), some (.int s9), some (.ref tb), some (.int (nI 41)), some (.int (nI (i + 1))), none]) ⟨rfl, rfl, rfl, rfl, rfl, zvi (z1i i), trivial⟩ (ih (i + 1) (by omega) (zAll_succ.mpr ⟨hinv, fun z => zb_eq.mp hc36 ((zMem_f hPF hth).mpr z.1)⟩))
                | exact zV.less (L' := [some (.ref x), some (.int g9), some (.int s9), some (.ref tb), some (.int (nI 41)), some (.int (nI (i + 1))), none]) ⟨rfl, rfl, rfl, rfl, rfl, zvi (z1i i), trivial⟩ (ih (i + 1) (by omega) (zAll_succ.mpr ⟨hinv, fun z => hc45 (hPF.2.2.1.trans z.2)⟩))
            · refine zz_iconst (pc := 48) C (v := 1) (by decide) dX2_hasMemberIn_48 ?_
              first
                | exact zz_ireturn (pc := 49) C dX2_hasMemberIn_49 (by first | rfl | decide | exact zb_nar) (Nat.le_refl _) (Nat.le_refl _) ⟨zvt (fun z => z i (by omega) ⟨(zMem_f hPF hth).mp (zbp hc36), hPF.2.2.1.symm.trans (Classical.not_not.mp hc45)⟩), rfl⟩
  refine zz_aload_n (pc := 0) C dX2_hasMemberIn_0 rfl ?_
  refine zz_get (pc := 1) C in_X2_hasMemberIn_X2 (ci := 2) rfl 0 (by decide) (fl_X2_hasMemberIn_11) rfl dX2_hasMemberIn_1 hC.2.1 rfl ?_
  refine zz_astore_n (pc := 4) C dX2_hasMemberIn_4 (Nat.le_of_ble_eq_true rfl) ?_
  refine zz_aload_n (pc := 5) C dX2_hasMemberIn_5 rfl ?_
  refine zz_tlen (pc := 6) C hC dX2_hasMemberIn_6 ?_
  refine zz_istore (pc := 7) C dX2_hasMemberIn_7 (Nat.le_of_ble_eq_true rfl) ?_
  refine zz_iconst (pc := 9) C (v := 0) (by decide) dX2_hasMemberIn_9 ?_
  refine zz_istore (pc := 10) C dX2_hasMemberIn_10 (Nat.le_of_ble_eq_true rfl) ?_
  exact zV.less (L' := [some (.ref x), some (.int g9), some (.int s9), some (.ref tb), some (.int (nI 41)), some (.int (nI (0))), none]) ⟨rfl, rfl, rfl, rfl, rfl, rfl, trivial⟩ (loop 41 0 rfl (fun k hk => absurd hk (by omega)))
theorem fl_X2_hasStoppedMember_11 : Cond.fieldLink RX2 11 "Signalpost" "table" "[LSignalpost$Proc;" ∈ wsX2_hasStoppedMember := by decide +kernel
theorem fl_X2_hasStoppedMember_191 : Cond.fieldLink RX2 191 "Signalpost$Proc" "stopped" "Z" ∈ wsX2_hasStoppedMember := by decide +kernel
theorem in_X2_hasStoppedMember_X1 : ∀ w ∈ u_ws RX1 TX1 20, w ∈ wsX2_hasStoppedMember := by decide +kernel
theorem in_X2_hasStoppedMember_X2 : ∀ w ∈ u_ws RX2 TX2 4, w ∈ wsX2_hasStoppedMember := by decide +kernel
set_option maxHeartbeats 4000000 in
set_option maxRecDepth 100000 in
theorem c_X2_hasStoppedMember (l : Launch) (D : va_G) {B G : zG} {x : Nat} {σ : zS} {q : List zEv} {h cap : Nat} {tb ev ka pa : Nat} {T : Nat → Option Nat} {F : Nat → Nat → Int32} {fk fp : Nat → Int32} {ck cp : Int32} {g9 : Int32} (hC : zClsB B x σ q h cap G tb ev ka pa T F fk fp ck cp)  : zMet D l yX2_hasStoppedMember wsX2_hasStoppedMember ({ frames := 1, cells := 0, slots := 0, locals := 21 } : Room) [.ref x, .int g9] G (fun v G9 => v = some (.int (zb (zStopd σ g9 41))) ∧ G9 = G) := by
  refine zMet_of (cc := cX2_hasStoppedMember) (maxL := 6) (ret := (some .boolean)) (by decide) rfl (Nat.le_of_ble_eq_true rfl) ?_
  intro p e s m args below meth c C hmn
  have loop : ∀ (n i : Nat), i + n = 41 → (∀ k, k < i → ¬ (zMem σ k g9 ∧ σ 5 k ≠ 0)) → zV p l e ({ frames := 1, cells := 0, slots := 0, locals := 21 } : Room) s m args below meth c D (zA G s.heap.size) 0 0 (zZ below D G (fun v G9 => v = some (.int (zb (zStopd σ g9 41))) ∧ G9 = G) args s ({ frames := 1, cells := 0, slots := 0, locals := 21 } : Room)) G 11 [some (.ref x), some (.int g9), some (.ref tb), some (.int (nI 41)), some (.int (nI (i))), none] [] := by
    intro n
    induction n with
    | zero =>
      intro i hi hinv
      have hi41 : i = 41 := by omega
      subst hi41
      refine zz_iload (pc := 11) C dX2_hasStoppedMember_11 rfl ?_
      refine zz_iload_n (pc := 13) C dX2_hasStoppedMember_13 rfl ?_
      refine zz_icmp_ge (pc := 14) C (tgt := 53) dX2_hasStoppedMember_14 (by decide) (fun hc14 => ?_) (fun hc14 => ?_)
      · refine zz_iconst (pc := 53) C (v := 0) (by decide) dX2_hasStoppedMember_53 ?_
        first
          | exact zz_ireturn (pc := 54) C dX2_hasStoppedMember_54 (by first | rfl | decide | exact zb_nar) (Nat.le_refl _) (Nat.le_refl _) ⟨zvf (fun z => z hinv), rfl⟩
      · exact absurd z4141 hc14
    | succ n ih =>
      intro i hi hinv
      refine zz_iload (pc := 11) C dX2_hasStoppedMember_11 rfl ?_
      refine zz_iload_n (pc := 13) C dX2_hasStoppedMember_13 rfl ?_
      refine zz_icmp_ge (pc := 14) C (tgt := 53) dX2_hasStoppedMember_14 (by decide) (fun hc14 => ?_) (fun hc14 => ?_)
      · exact absurd hc14 (z41i (by omega))
      · refine zz_aload_n (pc := 17) C dX2_hasStoppedMember_17 rfl ?_
        refine zz_iload (pc := 18) C dX2_hasStoppedMember_18 rfl ?_
        refine zz_tald (pc := 20) C hC dX2_hasStoppedMember_20 (k := i) (by omega) rfl (fun hno => ?_) (fun a9 hTa hth hGa hPF => ?_)
        · skip
          refine zz_astoreN (pc := 21) C dX2_hasStoppedMember_21 (Nat.le_of_ble_eq_true rfl) ?_
          refine zz_aloadN (pc := 23) C dX2_hasStoppedMember_23 rfl ?_
          refine zz_ifnullN (pc := 25) C (tgt := 47) dX2_hasStoppedMember_25 (by decide) ?_
          refine zz_iinc (pc := 47) C dX2_hasStoppedMember_47 rfl ?_
          refine zz_goto (pc := 50) C (tgt := 11) dX2_hasStoppedMember_50 (by decide) ?_
          first
            | exact zV.less (L' := [some (.ref x), some (.int g9), some (.ref tb), some (.int (nI 41)), some (.int (nI (i + 1))), none]) ⟨rfl, rfl, rfl, rfl, zvi (z1i i), trivial⟩ (ih (i + 1) (by omega) (zAll_succ.mpr ⟨hinv, fun z => z.1.1 hno⟩))
            | exact zV.less (L' := [some (.ref x), some (.int g9), some (.ref tb), some (.int (nI 41)), some (.int (nI (i + 1))), none]) ⟨rfl, rfl, rfl, rfl, zvi (z1i i), trivial⟩ (ih (i + 1) (by omega) (zAll_succ.mpr ⟨hinv, fun z => zb_eq.mp hc34 ((zMem_f hPF hth).mpr z.1)⟩))
            | exact zV.less (L' := [some (.ref x), some (.int g9), some (.ref tb), some (.int (nI 41)), some (.int (nI (i + 1))), none]) ⟨rfl, rfl, rfl, rfl, zvi (z1i i), trivial⟩ (ih (i + 1) (by omega) (zAll_succ.mpr ⟨hinv, fun z => z.2 (hPF.2.2.2.2.2.1.symm.trans hc42)⟩))
        · skip
          refine zz_astore (pc := 21) C dX2_hasStoppedMember_21 (Nat.le_of_ble_eq_true rfl) ?_
          refine zz_aload (pc := 23) C dX2_hasStoppedMember_23 rfl ?_
          refine zz_ifnull (pc := 25) C dX2_hasStoppedMember_25 ?_
          refine zz_aload (pc := 28) C dX2_hasStoppedMember_28 rfl ?_
          refine zz_iload_n (pc := 30) C dX2_hasStoppedMember_30 rfl ?_
          refine zz_callV (pc := 31) C (c_X1_isMemberOf l D (n := g9) hGa) gX2_hasStoppedMember_X1_isMemberOf rfl 1 (by decide +kernel) ⟨Nat.le_of_ble_eq_true rfl, Nat.le_of_ble_eq_true rfl⟩ hGa (ci := 1) rfl rfl rfl dX2_hasStoppedMember_31 rfl (Nat.le_of_ble_eq_true rfl) rfl ⟨Nat.le_of_ble_eq_true rfl, Nat.le_of_ble_eq_true rfl⟩ ?_
          rintro v G9 ⟨rfl, rfl⟩
          refine zz_if_eq (pc := 34) C (tgt := 47) dX2_hasStoppedMember_34 (by decide) (fun hc34 => ?_) (fun hc34 => ?_)
          · refine zz_iinc (pc := 47) C dX2_hasStoppedMember_47 rfl ?_
            refine zz_goto (pc := 50) C (tgt := 11) dX2_hasStoppedMember_50 (by decide) ?_
            first
              | exact zV.less (L' := [some (.ref x), some (.int g9), some (.ref tb), some (.int (nI 41)), some (.int (nI (i + 1))), none]) ⟨rfl, rfl, rfl, rfl, zvi (z1i i), trivial⟩ (ih (i + 1) (by omega) (zAll_succ.mpr ⟨hinv, fun z => z.1.1 hno⟩))
              | exact zV.less (L' := [some (.ref x), some (.int g9), some (.ref tb), some (.int (nI 41)), some (.int (nI (i + 1))), none]) ⟨rfl, rfl, rfl, rfl, zvi (z1i i), trivial⟩ (ih (i + 1) (by omega) (zAll_succ.mpr ⟨hinv, fun z => zb_eq.mp hc34 ((zMem_f hPF hth).mpr z.1)⟩))
              | exact zV.less (L' := [some (.ref x), some (.int g9), some (.ref tb), some (.int (nI 41)), some (.int (nI (i + 1))), none]) ⟨rfl, rfl, rfl, rfl, zvi (z1i i), trivial⟩ (ih (i + 1) (by omega) (zAll_succ.mpr ⟨hinv, fun z => z.2 (hPF.2.2.2.2.2.1.symm.trans hc42)⟩))
          · refine zz_aload (pc := 37) C dX2_hasStoppedMember_37 rfl ?_
            refine zz_get (pc := 39) C in_X2_hasStoppedMember_X1 (ci := 1) rfl 6 (by decide) (fl_X2_hasStoppedMember_191) rfl dX2_hasStoppedMember_39 hGa rfl ?_
            refine zz_if_eq (pc := 42) C (tgt := 47) dX2_hasStoppedMember_42 (by decide) (fun hc42 => ?_) (fun hc42 => ?_)
            · refine zz_iinc (pc := 47) C dX2_hasStoppedMember_47 rfl ?_
              refine zz_goto (pc := 50) C (tgt := 11) dX2_hasStoppedMember_50 (by decide) ?_
              first
                | exact zV.less (L' := [some (.ref x), some (.int g9), some (.ref tb), some (.int (nI 41)), some (.int (nI (i + 1))), none]) ⟨rfl, rfl, rfl, rfl, zvi (z1i i), trivial⟩ (ih (i + 1) (by omega) (zAll_succ.mpr ⟨hinv, fun z => z.1.1 hno⟩))
                | exact zV.less (L' := [some (.ref x), some (.int g9), some (.ref tb), some (.int (nI 41)), some (.int (nI (i + 1))), none]) ⟨rfl, rfl, rfl, rfl, zvi (z1i i), trivial⟩ (ih (i + 1) (by omega) (zAll_succ.mpr ⟨hinv, fun z => zb_eq.mp hc34 ((zMem_f hPF hth).mpr z.1)⟩))
                | exact zV.less (L' := [some (.ref x), some (.int g9), some (.ref tb), some (.int (nI 41)), some (.int (nI (i + 1))), none]) ⟨rfl, rfl, rfl, rfl, zvi (z1i i), trivial⟩ (ih (i + 1) (by omega) (zAll_succ.mpr ⟨hinv, fun z => z.2 (hPF.2.2.2.2.2.1.symm.trans hc42)⟩))
            · refine zz_iconst (pc := 45) C (v := 1) (by decide) dX2_hasStoppedMember_45 ?_
              first
                | exact zz_ireturn (pc := 46) C dX2_hasStoppedMember_46 (by first | rfl | decide | exact zb_nar) (Nat.le_refl _) (Nat.le_refl _) ⟨zvt (fun z => z i (by omega) ⟨(zMem_f hPF hth).mp (zbp hc34), fun z => hc42 (hPF.2.2.2.2.2.1.trans z)⟩), rfl⟩
  refine zz_aload_n (pc := 0) C dX2_hasStoppedMember_0 rfl ?_
  refine zz_get (pc := 1) C in_X2_hasStoppedMember_X2 (ci := 2) rfl 0 (by decide) (fl_X2_hasStoppedMember_11) rfl dX2_hasStoppedMember_1 hC.2.1 rfl ?_
  refine zz_astore_n (pc := 4) C dX2_hasStoppedMember_4 (Nat.le_of_ble_eq_true rfl) ?_
  refine zz_aload_n (pc := 5) C dX2_hasStoppedMember_5 rfl ?_
  refine zz_tlen (pc := 6) C hC dX2_hasStoppedMember_6 ?_
  refine zz_istore_n (pc := 7) C dX2_hasStoppedMember_7 (Nat.le_of_ble_eq_true rfl) ?_
  refine zz_iconst (pc := 8) C (v := 0) (by decide) dX2_hasStoppedMember_8 ?_
  refine zz_istore (pc := 9) C dX2_hasStoppedMember_9 (Nat.le_of_ble_eq_true rfl) ?_
  exact zV.less (L' := [some (.ref x), some (.int g9), some (.ref tb), some (.int (nI 41)), some (.int (nI (0))), none]) ⟨rfl, rfl, rfl, rfl, rfl, trivial⟩ (loop 41 0 rfl (fun k hk => absurd hk (by omega)))
