section ZLK
variable {p : Program} {l : Launch} {e : Env} {R : Room} {s : State} {m : MethodId} {args : Array Value} {below : List Frame} {meth : Method} {c : Code} {D : va_G} {A : Nat → Prop} {cells slots : Nat} {Q : State → Prop} {G : zG} {pc : Nat} {L : List (Option Value)} {st : List Value}
variable {cc : ByteArray} {nL : Nat} {own : String} {Ts : List Cond} {ret : Option FieldType}
theorem zz_lookup (C : zC p s m args meth c D A cc nL own Ts ret) {dflt : Int} {ps : Array (Int × Int)} {len : Nat} {x : Int32} {off : Int} {tgt : Nat} (hdg : decode cc pc = .ok (.lookupswitch dflt ps, len)) (hp : (ps.toList.zip (ps.toList.drop 1)).all (fun (a, next) => a.1 < next.1) = true) (ho : Op.lookupswitch.offset ps.toList dflt x.toInt = off) (ht : (pc : Int) + off = (tgt : Int))
    (kk : zV p l e R s m args below meth c D A cells slots Q G tgt L st) : zV p l e R s m args below meth c D A cells slots Q G pc L (.int x :: st) := fun H locs ls hP hS hG hL9 => lv_lookup C.1.1 C.1.2.1 hdg hp ho ht (kk H locs ls hP hS hG hL9)
end ZLK
theorem zTell_1 {x : zS × List zEv} {j : Nat} (h : j = 1) : zTell x j = x := if_pos h
theorem zTell_n {x : zS × List zEv} {j : Nat} (h : ¬ j = 1) : zTell x j = (zCheck x.1 j, x.2 ++ [(4, j)]) := if_neg h
theorem zOver_no {x : zS × List zEv} {p : Nat} (h : x.1 0 p = 0) : zOver x p = x := if_pos h
theorem zOver_yes {x : zS × List zEv} {p j : Nat} (h : ¬ x.1 0 p = 0) (hj : pn (x.1 1 p) = j) : zOver x p = zTell (if j = 1 ∨ zAct x.1 j 4 = 1 then zu x.1 0 p 0 else x.1, x.2) j := by
  unfold zOver
  rw [if_neg h, hj]
theorem zStands_no {x : zS × List zEv} {p : Nat} (h : ¬ (x.1 0 p ≠ 0 ∧ x.1 5 p ≠ 0)) : zStands x p = x := if_neg h
theorem zStands_yes {x : zS × List zEv} {p : Nat} (h : x.1 0 p ≠ 0 ∧ x.1 5 p ≠ 0) : zStands x p = zTell x (pn (x.1 1 p)) := if_pos h
theorem fl_X3_isOver_7 : Cond.fieldLink RX3 7 "SignalpostModel" "isThere" "[Z" ∈ wsX3_isOver := by decide +kernel
theorem fl_X3_isOver_13 : Cond.fieldLink RX3 13 "SignalpostModel" "parent" "[I" ∈ wsX3_isOver := by decide +kernel
theorem fl_X3_isOver_38 : Cond.fieldLink RX3 38 "SignalpostModel" "action" "[I" ∈ wsX3_isOver := by decide +kernel
theorem in_X3_isOver_X3 : ∀ w ∈ u_ws RX3 TX3 29, w ∈ wsX3_isOver := by decide +kernel
set_option maxHeartbeats 4000000 in
set_option maxRecDepth 100000 in
theorem c_X3_isOver (l : Launch) (D : va_G) {B G : zG} {y : Nat} {ma : Nat → Nat} {r : zS} {σ : zS} {q : List zEv} {p9 : Nat} (hR : zModR B y ma r G) (hag : zAg r σ) (hp9 : p9 < 41) (h00 : σ 0 0 = 0) (hpar : ¬ σ 0 p9 = 0 → ∃ j, σ 1 p9 = nI j ∧ 1 ≤ j ∧ j < 41) (hring : zRing r q) (hroom : q.length + 1 < 8192) : zMet D l yX3_isOver wsX3_isOver ({ frames := 2, cells := 0, slots := 0, locals := 49 } : Room) [.ref y, .int (nI p9)] G (fun v G9 => v = none ∧ ∃ r2, zModR B y ma r2 G9 ∧ zAg r2 (zOver (σ, q) p9).1 ∧ r2 23 = r 23 ∧ zRing r2 (zOver (σ, q) p9).2) := by
  refine zMet_of (cc := cX3_isOver) (maxL := 3) (ret := none) (by decide) rfl (Nat.le_of_ble_eq_true rfl) ?_
  intro p e s m args below meth c C hmn
  by_cases h0 : σ 0 p9 = 0
  · skip
    refine zz_aload_n (pc := 0) C dX3_isOver_0 rfl ?_
    refine zz_get (pc := 1) C in_X3_isOver_X3 (ci := 3) rfl 0 (by decide) (fl_X3_isOver_7) rfl dX3_isOver_1 hR.2.1 rfl ?_
    refine zz_iload_n (pc := 4) C dX3_isOver_4 rfl ?_
    refine zz_mldz (pc := 5) C hR 0 (by decide) rfl dX3_isOver_5 rfl (by show _ < 41; omega) ?_
    refine zz_if_ne (pc := 6) C (tgt := 10) dX3_isOver_6 (by decide) (fun hc6 => ?_) (fun hc6 => ?_)
    · exact absurd (by rw [hag 0 (by decide)]; exact h0) hc6
    · exact zz_return (pc := 9) C dX3_isOver_9 (Nat.le_refl _) (Nat.le_refl _) ⟨rfl, r, hR, by rw [zOver_no h0]; exact hag, rfl, by rw [zOver_no h0]; exact hring⟩
  · obtain ⟨j, hj, hj1, hj2⟩ := hpar h0
    have hjr : r 1 p9 = nI j := by rw [hag 1 (by decide)]; exact hj
    have hpj : pn (σ 1 p9) = j := by rw [hj]; exact nI_clamp (by omega)
    have k44 : ∀ (r1 τ : zS) (G1 : zG), τ = (if j = 1 ∨ zAct σ j 4 = 1 then zu σ 0 p9 0 else σ) → zModR B y ma r1 G1 → zAg r1 τ → r1 23 = r 23 → zRing r1 q → zV p l e ({ frames := 2, cells := 0, slots := 0, locals := 49 } : Room) s m args below meth c D (zA G s.heap.size) 0 0 (zZ below D G (fun v G9 => v = none ∧ ∃ r2, zModR B y ma r2 G9 ∧ zAg r2 (zOver (σ, q) p9).1 ∧ r2 23 = r 23 ∧ zRing r2 (zOver (σ, q) p9).2) args s ({ frames := 2, cells := 0, slots := 0, locals := 49 } : Room)) G1 44 [some (.ref y), some (.int (nI p9)), some (.int (nI (j)))] [] := by
      intro r1 τ G1 hx hR hag1 h23 hring1
      have ht0 : τ 0 0 = 0 := by
        rw [hx]; split
        · simp only [zu, if_true]; split
          · rfl
          · exact h00
        · exact h00
      by_cases hj1e : j = 1
      · skip
        refine zz_iload_n (pc := 44) C dX3_isOver_44 rfl ?_
        refine zz_iconst (pc := 45) C (v := 1) (by decide) dX3_isOver_45 ?_
        refine zz_icmp_eq (pc := 46) C (tgt := 61) dX3_isOver_46 (by decide) (fun hc46 => ?_) (fun hc46 => ?_)
        · exact zz_return (pc := 61) C dX3_isOver_61 (Nat.le_refl _) (Nat.le_refl _) ⟨rfl, r1, hR, by rw [zOver_yes h0 hpj, ← hx, zTell_1 hj1e]; exact hag1, h23, by rw [zOver_yes h0 hpj, ← hx, zTell_1 hj1e]; exact hring1⟩
        · exact absurd (by rw [hj1e]; rfl) hc46
      · skip
        refine zz_iload_n (pc := 44) C dX3_isOver_44 rfl ?_
        refine zz_iconst (pc := 45) C (v := 1) (by decide) dX3_isOver_45 ?_
        refine zz_icmp_eq (pc := 46) C (tgt := 61) dX3_isOver_46 (by decide) (fun hc46 => ?_) (fun hc46 => ?_)
        · exact absurd ((nI_eq (by omega) (by decide)).mp (show nI j = nI 1 from hc46)) hj1e
        · refine zz_aload_n (pc := 49) C dX3_isOver_49 rfl ?_
          refine zz_iload_n (pc := 50) C dX3_isOver_50 rfl ?_
          refine zz_callV (pc := 51) C (c_mcheck l D hR (σ := τ) hag1 ht0 (p9 := j) (by omega) hring1) gX3_isOver_X3_checks rfl 1 (by decide +kernel) ⟨Nat.le_of_ble_eq_true rfl, Nat.le_of_ble_eq_true rfl⟩ hR.2.1 (ci := 3) rfl rfl rfl dX3_isOver_51 rfl (Nat.le_of_ble_eq_true rfl) rfl ⟨Nat.le_of_ble_eq_true rfl, Nat.le_of_ble_eq_true rfl⟩ ?_
          rintro v G9 ⟨rfl, r2, hR2, hag2, h232, hring2⟩
          refine zz_aload_n (pc := 54) C dX3_isOver_54 rfl ?_
          refine zz_iconst (pc := 55) C (v := 1) (by decide) dX3_isOver_55 ?_
          refine zz_iconst (pc := 56) C (v := 4) (by decide) dX3_isOver_56 ?_
          refine zz_iload_n (pc := 57) C dX3_isOver_57 rfl ?_
          refine zz_callV (pc := 58) C (c_X3_appends l D hR2 (ev := (4, j)) hring2 hroom (by show nI 1000 * nI 1 + nI 50 * nI 4 + nI j = _; simp only [pk_mul, nI_add]; rfl)) gX3_isOver_X3_appends rfl 3 (by decide +kernel) ⟨Nat.le_of_ble_eq_true rfl, Nat.le_of_ble_eq_true rfl⟩ hR2.2.1 (ci := 3) rfl rfl rfl dX3_isOver_58 rfl (Nat.le_of_ble_eq_true rfl) rfl ⟨Nat.le_of_ble_eq_true rfl, Nat.le_of_ble_eq_true rfl⟩ ?_
          rintro v G9 ⟨rfl, r3, hR3, hag3, hk3, hring3⟩
          exact zz_return (pc := 61) C dX3_isOver_61 (Nat.le_refl _) (Nat.le_refl _) ⟨rfl, r3, hR3, by rw [zOver_yes h0 hpj, ← hx, zTell_n hj1e]; exact hag3.tr hag2, (hk3 23 (by decide)).trans (h232.trans h23), by rw [zOver_yes h0 hpj, ← hx, zTell_n hj1e]; exact hring3⟩
    refine zz_aload_n (pc := 0) C dX3_isOver_0 rfl ?_
    refine zz_get (pc := 1) C in_X3_isOver_X3 (ci := 3) rfl 0 (by decide) (fl_X3_isOver_7) rfl dX3_isOver_1 hR.2.1 rfl ?_
    refine zz_iload_n (pc := 4) C dX3_isOver_4 rfl ?_
    refine zz_mldz (pc := 5) C hR 0 (by decide) rfl dX3_isOver_5 rfl (by show _ < 41; omega) ?_
    refine zz_if_ne (pc := 6) C (tgt := 10) dX3_isOver_6 (by decide) (fun hc6 => ?_) (fun hc6 => ?_)
    · refine zz_aload_n (pc := 10) C dX3_isOver_10 rfl ?_
      refine zz_get (pc := 11) C in_X3_isOver_X3 (ci := 3) rfl 1 (by decide) (fl_X3_isOver_13) rfl dX3_isOver_11 hR.2.1 rfl ?_
      refine zz_iload_n (pc := 14) C dX3_isOver_14 rfl ?_
      refine zz_mld (pc := 15) C hR 1 (by decide) rfl dX3_isOver_15 rfl (by show _ < 41; omega) ?_
      rw [hjr]
      refine zz_istore_n (pc := 16) C dX3_isOver_16 (Nat.le_of_ble_eq_true rfl) ?_
      refine zz_iload_n (pc := 17) C dX3_isOver_17 rfl ?_
      refine zz_iconst (pc := 18) C (v := 1) (by decide) dX3_isOver_18 ?_
      refine zz_icmp_eq (pc := 19) C (tgt := 37) dX3_isOver_19 (by decide) (fun hc19 => ?_) (fun hc19 => ?_)
      · refine zz_aload_n (pc := 37) C dX3_isOver_37 rfl ?_
        refine zz_get (pc := 38) C in_X3_isOver_X3 (ci := 3) rfl 0 (by decide) (fl_X3_isOver_7) rfl dX3_isOver_38 hR.2.1 rfl ?_
        refine zz_iload_n (pc := 41) C dX3_isOver_41 rfl ?_
        refine zz_iconst (pc := 42) C (v := 0) (by decide) dX3_isOver_42 ?_
        refine zz_mstz (pc := 43) C hR 0 (by decide) rfl dX3_isOver_43 rfl (by show _ < 41; omega) (by first | rfl | exact zb_vp) (fun G hR => ?_)
        first
          | exact k44 _ (zu σ 0 p9 0) _ (if_pos (Or.inl ((nI_eq (by omega) (by decide)).mp (show nI j = nI 1 from hc19)))).symm hR (zAg_zu hag) rfl (hring.ag rfl rfl rfl)
          | exact k44 _ (zu σ 0 p9 0) _ (if_pos (Or.inr ((zAct_ag hag).symm.trans (Classical.not_not.mp hc34)))).symm hR (zAg_zu hag) rfl (hring.ag rfl rfl rfl)
          | exact k44 r σ _ (if_neg (fun z => z.elim (fun w => hc19 (by rw [w]; rfl)) (fun w => hc34 ((zAct_ag hag).trans w)))).symm hR hag rfl hring
      · refine zz_aload_n (pc := 22) C dX3_isOver_22 rfl ?_
        refine zz_get (pc := 23) C in_X3_isOver_X3 (ci := 3) rfl 9 (by decide) (fl_X3_isOver_38) rfl dX3_isOver_23 hR.2.1 rfl ?_
        refine zz_bipush (pc := 26) C (v := 9) (by decide) dX3_isOver_26 ?_
        refine zz_iload_n (pc := 28) C dX3_isOver_28 rfl ?_
        refine zz_imul (pc := 29) C dX3_isOver_29 ?_
        refine zz_iconst (pc := 30) C (v := 4) (by decide) dX3_isOver_30 ?_
        refine zz_iadd (pc := 31) C dX3_isOver_31 ?_
        refine zz_mld (pc := 32) C hR 9 (by decide) rfl dX3_isOver_32 (i := 9 * j + 4) (by rw [show (9 : Int32) * nI j = nI (9 * j) from pk_mul 9 j]; exact nI_add _ 4) (by show _ < 369; omega) ?_
        refine zz_iconst (pc := 33) C (v := 1) (by decide) dX3_isOver_33 ?_
        refine zz_icmp_ne (pc := 34) C (tgt := 44) dX3_isOver_34 (by decide) (fun hc34 => ?_) (fun hc34 => ?_)
        · first
            | exact k44 _ (zu σ 0 p9 0) _ (if_pos (Or.inl ((nI_eq (by omega) (by decide)).mp (show nI j = nI 1 from hc19)))).symm hR (zAg_zu hag) rfl (hring.ag rfl rfl rfl)
            | exact k44 _ (zu σ 0 p9 0) _ (if_pos (Or.inr ((zAct_ag hag).symm.trans (Classical.not_not.mp hc34)))).symm hR (zAg_zu hag) rfl (hring.ag rfl rfl rfl)
            | exact k44 r σ _ (if_neg (fun z => z.elim (fun w => hc19 (by rw [w]; rfl)) (fun w => hc34 ((zAct_ag hag).trans w)))).symm hR hag rfl hring
        · refine zz_aload_n (pc := 37) C dX3_isOver_37 rfl ?_
          refine zz_get (pc := 38) C in_X3_isOver_X3 (ci := 3) rfl 0 (by decide) (fl_X3_isOver_7) rfl dX3_isOver_38 hR.2.1 rfl ?_
          refine zz_iload_n (pc := 41) C dX3_isOver_41 rfl ?_
          refine zz_iconst (pc := 42) C (v := 0) (by decide) dX3_isOver_42 ?_
          refine zz_mstz (pc := 43) C hR 0 (by decide) rfl dX3_isOver_43 rfl (by show _ < 41; omega) (by first | rfl | exact zb_vp) (fun G hR => ?_)
          first
            | exact k44 _ (zu σ 0 p9 0) _ (if_pos (Or.inl ((nI_eq (by omega) (by decide)).mp (show nI j = nI 1 from hc19)))).symm hR (zAg_zu hag) rfl (hring.ag rfl rfl rfl)
            | exact k44 _ (zu σ 0 p9 0) _ (if_pos (Or.inr ((zAct_ag hag).symm.trans (Classical.not_not.mp hc34)))).symm hR (zAg_zu hag) rfl (hring.ag rfl rfl rfl)
            | exact k44 r σ _ (if_neg (fun z => z.elim (fun w => hc19 (by rw [w]; rfl)) (fun w => hc34 ((zAct_ag hag).trans w)))).symm hR hag rfl hring
    · exact absurd (by rw [← hag 0 (by decide)]; exact Classical.not_not.mp hc6) h0
theorem fl_X3_stands_13 : Cond.fieldLink RX3 13 "SignalpostModel" "parent" "[I" ∈ wsX3_stands := by decide +kernel
theorem fl_X3_stands_7 : Cond.fieldLink RX3 7 "SignalpostModel" "isThere" "[Z" ∈ wsX3_stands := by decide +kernel
theorem fl_X3_stands_26 : Cond.fieldLink RX3 26 "SignalpostModel" "isStopped" "[Z" ∈ wsX3_stands := by decide +kernel
theorem in_X3_stands_X3 : ∀ w ∈ u_ws RX3 TX3 29, w ∈ wsX3_stands := by decide +kernel
set_option maxHeartbeats 4000000 in
set_option maxRecDepth 100000 in
theorem c_X3_stands (l : Launch) (D : va_G) {B G : zG} {y : Nat} {ma : Nat → Nat} {r : zS} {σ : zS} {q : List zEv} {p9 : Nat} (hR : zModR B y ma r G) (hag : zAg r σ) (hp9 : p9 < 41) (h00 : σ 0 0 = 0) (hpar : ¬ σ 0 p9 = 0 → ∃ j, σ 1 p9 = nI j ∧ 1 ≤ j ∧ j < 41) (hring : zRing r q) (hroom : q.length + 1 < 8192) : zMet D l yX3_stands wsX3_stands ({ frames := 2, cells := 0, slots := 0, locals := 49 } : Room) [.ref y, .int (nI p9)] G (fun v G9 => v = none ∧ ∃ r2, zModR B y ma r2 G9 ∧ zAg r2 (zStands (σ, q) p9).1 ∧ r2 23 = r 23 ∧ zRing r2 (zStands (σ, q) p9).2) := by
  refine zMet_of (cc := cX3_stands) (maxL := 3) (ret := none) (by decide) rfl (Nat.le_of_ble_eq_true rfl) ?_
  intro p e s m args below meth c C hmn
  by_cases h0 : σ 0 p9 ≠ 0 ∧ σ 5 p9 ≠ 0
  · obtain ⟨j, hj, hj1, hj2⟩ := hpar h0.1
    have hjr : r 1 p9 = nI j := by rw [hag 1 (by decide)]; exact hj
    have hpj : pn (σ 1 p9) = j := by rw [hj]; exact nI_clamp (by omega)
    refine zz_aload_n (pc := 0) C dX3_stands_0 rfl ?_
    refine zz_get (pc := 1) C in_X3_stands_X3 (ci := 3) rfl 1 (by decide) (fl_X3_stands_13) rfl dX3_stands_1 hR.2.1 rfl ?_
    refine zz_iload_n (pc := 4) C dX3_stands_4 rfl ?_
    refine zz_mld (pc := 5) C hR 1 (by decide) rfl dX3_stands_5 rfl (by show _ < 41; omega) ?_
    rw [hjr]
    refine zz_istore_n (pc := 6) C dX3_stands_6 (Nat.le_of_ble_eq_true rfl) ?_
    refine zz_aload_n (pc := 7) C dX3_stands_7 rfl ?_
    refine zz_get (pc := 8) C in_X3_stands_X3 (ci := 3) rfl 0 (by decide) (fl_X3_stands_7) rfl dX3_stands_8 hR.2.1 rfl ?_
    refine zz_iload_n (pc := 11) C dX3_stands_11 rfl ?_
    refine zz_mldz (pc := 12) C hR 0 (by decide) rfl dX3_stands_12 rfl (by show _ < 41; omega) ?_
    refine zz_if_eq (pc := 13) C (tgt := 42) dX3_stands_13 (by decide) (fun hc13 => ?_) (fun hc13 => ?_)
    · exact absurd (by rw [← hag 0 (by decide)]; exact hc13) h0.1
    · refine zz_aload_n (pc := 16) C dX3_stands_16 rfl ?_
      refine zz_get (pc := 17) C in_X3_stands_X3 (ci := 3) rfl 5 (by decide) (fl_X3_stands_26) rfl dX3_stands_17 hR.2.1 rfl ?_
      refine zz_iload_n (pc := 20) C dX3_stands_20 rfl ?_
      refine zz_mldz (pc := 21) C hR 5 (by decide) rfl dX3_stands_21 rfl (by show _ < 41; omega) ?_
      refine zz_if_eq (pc := 22) C (tgt := 42) dX3_stands_22 (by decide) (fun hc22 => ?_) (fun hc22 => ?_)
      · exact absurd (by rw [← hag 5 (by decide)]; exact hc22) h0.2
      · refine zz_iload_n (pc := 25) C dX3_stands_25 rfl ?_
        refine zz_iconst (pc := 26) C (v := 1) (by decide) dX3_stands_26 ?_
        refine zz_icmp_eq (pc := 27) C (tgt := 42) dX3_stands_27 (by decide) (fun hc27 => ?_) (fun hc27 => ?_)
        · first
            | exact zz_return (pc := 42) C dX3_stands_42 (Nat.le_refl _) (Nat.le_refl _) ⟨rfl, r3, hR3, by rw [zStands_yes h0, hpj, zTell_n (fun z => hc27 (by rw [z]; rfl))]; exact hag3.tr hag2, (hk3 23 (by decide)).trans h232, by rw [zStands_yes h0, hpj, zTell_n (fun z => hc27 (by rw [z]; rfl))]; exact hring3⟩
            | exact zz_return (pc := 42) C dX3_stands_42 (Nat.le_refl _) (Nat.le_refl _) ⟨rfl, r, hR, by rw [zStands_yes h0, hpj, zTell_1 ((nI_eq (by omega) (by decide)).mp (show nI j = nI 1 from hc27))]; exact hag, rfl, by rw [zStands_yes h0, hpj, zTell_1 ((nI_eq (by omega) (by decide)).mp (show nI j = nI 1 from hc27))]; exact hring⟩
        · refine zz_aload_n (pc := 30) C dX3_stands_30 rfl ?_
          refine zz_iload_n (pc := 31) C dX3_stands_31 rfl ?_
          refine zz_callV (pc := 32) C (c_mcheck l D hR (σ := σ) hag h00 (p9 := j) (by omega) hring) gX3_stands_X3_checks rfl 1 (by decide +kernel) ⟨Nat.le_of_ble_eq_true rfl, Nat.le_of_ble_eq_true rfl⟩ hR.2.1 (ci := 3) rfl rfl rfl dX3_stands_32 rfl (Nat.le_of_ble_eq_true rfl) rfl ⟨Nat.le_of_ble_eq_true rfl, Nat.le_of_ble_eq_true rfl⟩ ?_
          rintro v G9 ⟨rfl, r2, hR2, hag2, h232, hring2⟩
          refine zz_aload_n (pc := 35) C dX3_stands_35 rfl ?_
          refine zz_iconst (pc := 36) C (v := 1) (by decide) dX3_stands_36 ?_
          refine zz_iconst (pc := 37) C (v := 4) (by decide) dX3_stands_37 ?_
          refine zz_iload_n (pc := 38) C dX3_stands_38 rfl ?_
          refine zz_callV (pc := 39) C (c_X3_appends l D hR2 (ev := (4, j)) hring2 hroom (by show nI 1000 * nI 1 + nI 50 * nI 4 + nI j = _; simp only [pk_mul, nI_add]; rfl)) gX3_stands_X3_appends rfl 3 (by decide +kernel) ⟨Nat.le_of_ble_eq_true rfl, Nat.le_of_ble_eq_true rfl⟩ hR2.2.1 (ci := 3) rfl rfl rfl dX3_stands_39 rfl (Nat.le_of_ble_eq_true rfl) rfl ⟨Nat.le_of_ble_eq_true rfl, Nat.le_of_ble_eq_true rfl⟩ ?_
          rintro v G9 ⟨rfl, r3, hR3, hag3, hk3, hring3⟩
          first
            | exact zz_return (pc := 42) C dX3_stands_42 (Nat.le_refl _) (Nat.le_refl _) ⟨rfl, r3, hR3, by rw [zStands_yes h0, hpj, zTell_n (fun z => hc27 (by rw [z]; rfl))]; exact hag3.tr hag2, (hk3 23 (by decide)).trans h232, by rw [zStands_yes h0, hpj, zTell_n (fun z => hc27 (by rw [z]; rfl))]; exact hring3⟩
            | exact zz_return (pc := 42) C dX3_stands_42 (Nat.le_refl _) (Nat.le_refl _) ⟨rfl, r, hR, by rw [zStands_yes h0, hpj, zTell_1 ((nI_eq (by omega) (by decide)).mp (show nI j = nI 1 from hc27))]; exact hag, rfl, by rw [zStands_yes h0, hpj, zTell_1 ((nI_eq (by omega) (by decide)).mp (show nI j = nI 1 from hc27))]; exact hring⟩
  · skip
    refine zz_aload_n (pc := 0) C dX3_stands_0 rfl ?_
    refine zz_get (pc := 1) C in_X3_stands_X3 (ci := 3) rfl 1 (by decide) (fl_X3_stands_13) rfl dX3_stands_1 hR.2.1 rfl ?_
    refine zz_iload_n (pc := 4) C dX3_stands_4 rfl ?_
    refine zz_mld (pc := 5) C hR 1 (by decide) rfl dX3_stands_5 rfl (by show _ < 41; omega) ?_
    refine zz_istore_n (pc := 6) C dX3_stands_6 (Nat.le_of_ble_eq_true rfl) ?_
    refine zz_aload_n (pc := 7) C dX3_stands_7 rfl ?_
    refine zz_get (pc := 8) C in_X3_stands_X3 (ci := 3) rfl 0 (by decide) (fl_X3_stands_7) rfl dX3_stands_8 hR.2.1 rfl ?_
    refine zz_iload_n (pc := 11) C dX3_stands_11 rfl ?_
    refine zz_mldz (pc := 12) C hR 0 (by decide) rfl dX3_stands_12 rfl (by show _ < 41; omega) ?_
    refine zz_if_eq (pc := 13) C (tgt := 42) dX3_stands_13 (by decide) (fun hc13 => ?_) (fun hc13 => ?_)
    · exact zz_return (pc := 42) C dX3_stands_42 (Nat.le_refl _) (Nat.le_refl _) ⟨rfl, r, hR, by rw [zStands_no h0]; exact hag, rfl, by rw [zStands_no h0]; exact hring⟩
    · refine zz_aload_n (pc := 16) C dX3_stands_16 rfl ?_
      refine zz_get (pc := 17) C in_X3_stands_X3 (ci := 3) rfl 5 (by decide) (fl_X3_stands_26) rfl dX3_stands_17 hR.2.1 rfl ?_
      refine zz_iload_n (pc := 20) C dX3_stands_20 rfl ?_
      refine zz_mldz (pc := 21) C hR 5 (by decide) rfl dX3_stands_21 rfl (by show _ < 41; omega) ?_
      refine zz_if_eq (pc := 22) C (tgt := 42) dX3_stands_22 (by decide) (fun hc22 => ?_) (fun hc22 => ?_)
      · exact zz_return (pc := 42) C dX3_stands_42 (Nat.le_refl _) (Nat.le_refl _) ⟨rfl, r, hR, by rw [zStands_no h0]; exact hag, rfl, by rw [zStands_no h0]; exact hring⟩
      · exact absurd ⟨by rw [← hag 0 (by decide)]; exact hc13, by rw [← hag 5 (by decide)]; exact hc22⟩ h0
theorem zCode_50 {e : zEv} (h : zEvOk e) : zCode e % 50 = e.2 ∧ zCode e < 3100 ∧ (e.1 = 9 → zCode e / 1000 = 2) ∧ (e.1 = 10 → zCode e / 1000 = 3) ∧ (e.1 < 9 → zCode e / 1000 = 1 ∧ zCode e % 1000 / 50 = e.1) := by
  obtain ⟨h1, h2, h3, h4⟩ := h
  unfold zCode
  split
  · omega
  · split
    · omega
    · omega
theorem zRing.pop {r : zS} {e : zEv} {q : List zEv} (h : zRing r (e :: q)) : ∃ hd : Nat, hd < 8192 ∧ r 25 0 = nI hd ∧ r 24 hd = nI (zCode e) ∧ ¬ r 25 0 = r 26 0 ∧ zRing (zu r 25 0 (nI ((hd + 1) % 8192))) q := by
  obtain ⟨hd, h1, h2, h3, h4, h5⟩ := h
  simp only [List.length_cons] at h3 h4
  refine ⟨hd, h1, h2, ?_, ?_, (hd + 1) % 8192, Nat.mod_lt _ (by decide), zu_self, ?_, by omega, fun i f hf => ?_⟩
  · have := h5 0 e rfl
    rw [Nat.add_zero, Nat.mod_eq_of_lt h1] at this
    exact this
  · rw [h2, h3]
    exact nI_ne (by omega) (by omega) (by omega)
  · rw [zu_off (by decide), h3]
    congr 1
    omega
  · rw [zu_off (by decide)]
    have := h5 (i + 1) f hf
    rw [← this]
    congr 1
    omega
theorem zRing.empty {r : zS} (h : zRing r []) : r 25 0 = r 26 0 := by
  obtain ⟨hd, h1, h2, h3, h4, h5⟩ := h
  rw [h2, h3]
  congr 1
  simp only [List.length_nil, Nat.add_zero]
  omega
theorem zEvent_9 {x : zS × List zEv} {e : zEv} (h : e.1 = 9) : zEvent x e = zOver x e.2 := if_pos h
theorem zEvent_10 {x : zS × List zEv} {e : zEv} (h : e.1 = 10) : zEvent x e = zStands x e.2 := by
  unfold zEvent
  rw [if_neg (by rw [h]; decide), if_pos h]
theorem zEvent_s {x : zS × List zEv} {e : zEv} (h : e.1 < 9) : zEvent x e = zComes x e.2 e.1 := by
  unfold zEvent
  rw [if_neg (by omega), if_neg (by omega)]
/-- what a run needs, as long as n events at most are to come -/
def zRun : Nat → zS → List zEv → Prop
  | _, _, [] => True
  | 0, _, _ :: _ => False
  | n + 1, σ, e :: q => zEvOk e ∧ σ 0 0 = 0 ∧ (σ 0 e.2 ≠ 0 → σ 4 e.2 = 0 → e.2 ≠ 1 → zLv σ e.2) ∧ σ 11 e.2 &&& 511 = σ 11 e.2 ∧ (9 ≤ e.1 → ¬ σ 0 e.2 = 0 → ∃ j, σ 1 e.2 = nI j ∧ 1 ≤ j ∧ j < 41) ∧ q.length + 300 < 8192 ∧ zRun n (zEvent (σ, q) e).1 (zEvent (σ, q) e).2
theorem zGo_nil {σ : zS} : ∀ n : Nat, zGo n σ [] = σ
  | 0 => rfl
  | _ + 1 => rfl
theorem fl_X3_goes_143 : Cond.fieldLink RX3 143 "SignalpostModel" "head" "I" ∈ wsX3_goes := by decide +kernel
theorem fl_X3_goes_101 : Cond.fieldLink RX3 101 "SignalpostModel" "tail" "I" ∈ wsX3_goes := by decide +kernel
theorem fl_X3_goes_81 : Cond.fieldLink RX3 81 "SignalpostModel" "ring" "[I" ∈ wsX3_goes := by decide +kernel
theorem in_X3_goes_X3 : ∀ w ∈ u_ws RX3 TX3 29, w ∈ wsX3_goes := by decide +kernel
set_option maxHeartbeats 4000000 in
set_option maxRecDepth 100000 in
theorem c_X3_goes (l : Launch) (D : va_G) {B G : zG} {y : Nat} {ma : Nat → Nat} {r : zS} {σ : zS} {q : List zEv} {N : Nat} (hR : zModR B y ma r G) (hag : zAg r σ) (hring : zRing r q) (hrun : zRun N σ q) : zMet D l yX3_goes wsX3_goes ({ frames := 6, cells := 0, slots := 0, locals := 141 } : Room) [.ref y] G (fun v G9 => v = none ∧ ∃ r2, zModR B y ma r2 G9 ∧ zAg r2 (((zGo N σ q, []) : zS × List zEv)).1 ∧ r2 23 = r 23 ∧ zRing r2 (((zGo N σ q, []) : zS × List zEv)).2) := by
  refine zMet_of (cc := cX3_goes) (maxL := 3) (ret := none) (by decide) rfl (Nat.le_of_ble_eq_true rfl) ?_
  intro p e s m args below meth c C hmn
  have kL : ∀ (n : Nat) (r1 σ1 : zS) (q1 : List zEv) (G1 : zG), zModR B y ma r1 G1 → zAg r1 σ1 → r1 23 = r 23 → zRing r1 q1 → zRun n σ1 q1 → zGo n σ1 q1 = zGo N σ q → zV p l e ({ frames := 6, cells := 0, slots := 0, locals := 141 } : Room) s m args below meth c D (zA G s.heap.size) 0 0 (zZ below D G (fun v G9 => v = none ∧ ∃ r2, zModR B y ma r2 G9 ∧ zAg r2 (((zGo N σ q, []) : zS × List zEv)).1 ∧ r2 23 = r 23 ∧ zRing r2 (((zGo N σ q, []) : zS × List zEv)).2) args s ({ frames := 6, cells := 0, slots := 0, locals := 141 } : Room)) G1 0 [some (.ref y), none, none] [] := by
    intro n
    induction n with
    | zero =>
      intro r1 σ1 q1 G1 hR hag h23 hring hrun hgo
      cases q1 with
      | cons e9 q1 => exact hrun.elim
      | nil =>
        refine zz_aload_n (pc := 0) C dX3_goes_0 rfl ?_
        refine zz_get (pc := 1) C in_X3_goes_X3 (ci := 3) rfl 25 (by decide) (fl_X3_goes_143) rfl dX3_goes_1 hR.2.1 rfl ?_
        refine zz_aload_n (pc := 4) C dX3_goes_4 rfl ?_
        refine zz_get (pc := 5) C in_X3_goes_X3 (ci := 3) rfl 26 (by decide) (fl_X3_goes_101) rfl dX3_goes_5 hR.2.1 rfl ?_
        refine zz_icmp_eq (pc := 8) C (tgt := 104) dX3_goes_8 (by decide) (fun hc8 => ?_) (fun hc8 => ?_)
        · exact zz_return (pc := 104) C dX3_goes_104 (Nat.le_refl _) (Nat.le_refl _) ⟨rfl, r1, hR, by rw [← hgo, zGo_nil]; exact hag, h23, hring⟩
        · exact absurd hring.empty hc8
    | succ n ih =>
      intro r1 σ1 q1 G1 hR hag h23 hring hrun hgo
      cases q1 with
      | nil =>
        refine zz_aload_n (pc := 0) C dX3_goes_0 rfl ?_
        refine zz_get (pc := 1) C in_X3_goes_X3 (ci := 3) rfl 25 (by decide) (fl_X3_goes_143) rfl dX3_goes_1 hR.2.1 rfl ?_
        refine zz_aload_n (pc := 4) C dX3_goes_4 rfl ?_
        refine zz_get (pc := 5) C in_X3_goes_X3 (ci := 3) rfl 26 (by decide) (fl_X3_goes_101) rfl dX3_goes_5 hR.2.1 rfl ?_
        refine zz_icmp_eq (pc := 8) C (tgt := 104) dX3_goes_8 (by decide) (fun hc8 => ?_) (fun hc8 => ?_)
        · exact zz_return (pc := 104) C dX3_goes_104 (Nat.le_refl _) (Nat.le_refl _) ⟨rfl, r1, hR, by rw [← hgo, zGo_nil]; exact hag, h23, hring⟩
        · exact absurd hring.empty hc8
      | cons e9 q1 =>
        obtain ⟨hok, a2, a3, a4, a5, a6, a7⟩ := hrun
        obtain ⟨hd, hhd1, hhd, hcode, hne, hring2z⟩ := hring.pop
        have hcd := zCode_50 hok
        by_cases h9 : e9.1 = 9
        · skip
          refine zz_aload_n (pc := 0) C dX3_goes_0 rfl ?_
          refine zz_get (pc := 1) C in_X3_goes_X3 (ci := 3) rfl 25 (by decide) (fl_X3_goes_143) rfl dX3_goes_1 hR.2.1 rfl ?_
          refine zz_aload_n (pc := 4) C dX3_goes_4 rfl ?_
          refine zz_get (pc := 5) C in_X3_goes_X3 (ci := 3) rfl 26 (by decide) (fl_X3_goes_101) rfl dX3_goes_5 hR.2.1 rfl ?_
          refine zz_icmp_eq (pc := 8) C (tgt := 104) dX3_goes_8 (by decide) (fun hc8 => ?_) (fun hc8 => ?_)
          · exact absurd hc8 hne
          · refine zz_aload_n (pc := 11) C dX3_goes_11 rfl ?_
            refine zz_get (pc := 12) C in_X3_goes_X3 (ci := 3) rfl 24 (by decide) (fl_X3_goes_81) rfl dX3_goes_12 hR.2.1 rfl ?_
            refine zz_aload_n (pc := 15) C dX3_goes_15 rfl ?_
            refine zz_get (pc := 16) C in_X3_goes_X3 (ci := 3) rfl 25 (by decide) (fl_X3_goes_143) rfl dX3_goes_16 hR.2.1 rfl ?_
            refine zz_mld (pc := 19) C hR 24 (by decide) rfl dX3_goes_19 hhd (by show _ < 8192; omega) ?_
            rw [hcode]
            refine zz_istore_n (pc := 20) C dX3_goes_20 (Nat.le_of_ble_eq_true rfl) ?_
            refine zz_aload_n (pc := 21) C dX3_goes_21 rfl ?_
            refine zz_aload_n (pc := 22) C dX3_goes_22 rfl ?_
            refine zz_get (pc := 23) C in_X3_goes_X3 (ci := 3) rfl 25 (by decide) (fl_X3_goes_143) rfl dX3_goes_23 hR.2.1 rfl ?_
            refine zz_iconst (pc := 26) C (v := 1) (by decide) dX3_goes_26 ?_
            refine zz_iadd (pc := 27) C dX3_goes_27 ?_
            refine zz_sipush (pc := 28) C (v := 8192) (by decide) dX3_goes_28 ?_
            rw [hhd]
            refine zz_irem (pc := 31) C (a := hd + 1) (d := 8192) dX3_goes_31 (nI_1 hd) (by decide) (by omega) (by decide) (by decide) ?_
            refine zz_mput (pc := 32) C in_X3_goes_X3 hR 25 (by decide) fl_X3_goes_143 dX3_goes_32 (fun G hR => ?_)
            have hringz := hring2z
            have hagz : zAg (zu r1 25 0 (nI ((hd + 1) % 8192))) σ1 := zAg_off hag (by decide)
            have hz23 : (zu r1 25 0 (nI ((hd + 1) % 8192))) 23 = r1 23 := zu_off (by decide)
            refine zz_iload_n (pc := 35) C dX3_goes_35 rfl ?_
            refine zz_bipush (pc := 36) C (v := 50) (by decide) dX3_goes_36 ?_
            refine zz_irem (pc := 38) C (a := zCode e9) (d := 50) dX3_goes_38 rfl (by decide) (by omega) (by decide) (by decide) ?_
            rw [hcd.1]
            refine zz_istore_n (pc := 39) C dX3_goes_39 (Nat.le_of_ble_eq_true rfl) ?_
            refine zz_iload_n (pc := 40) C dX3_goes_40 rfl ?_
            refine zz_sipush (pc := 41) C (v := 1000) (by decide) dX3_goes_41 ?_
            refine zz_idiv (pc := 44) C (a := zCode e9) (d := 1000) dX3_goes_44 rfl (by decide) (by omega) (by decide) (by decide) ?_
            refine zz_lookup (pc := 45) C (tgt := 88) (off := 43) dX3_goes_45 (by decide) (by rw [(show (nI (zCode e9 / 1000)) = 2 from by rw [hcd.2.2.1 h9]; decide)]; decide) (by decide) ?_
            refine zz_aload_n (pc := 88) C dX3_goes_88 rfl ?_
            refine zz_iload_n (pc := 89) C dX3_goes_89 rfl ?_
            refine zz_callV (pc := 90) C (c_X3_isOver l D hR (σ := σ1) (q := q1) hagz (p9 := e9.2) (by have := hok.2.2.1; omega) a2 (a5 (by omega)) hringz (by omega)) gX3_goes_X3_isOver rfl 1 (by decide +kernel) ⟨Nat.le_of_ble_eq_true rfl, Nat.le_of_ble_eq_true rfl⟩ hR.2.1 (ci := 3) rfl rfl rfl dX3_goes_90 rfl (Nat.le_of_ble_eq_true rfl) rfl ⟨Nat.le_of_ble_eq_true rfl, Nat.le_of_ble_eq_true rfl⟩ ?_
            rintro v G9 ⟨rfl, r2, hR2, hag2, h232, hring2⟩
            refine zz_goto (pc := 93) C (tgt := 101) dX3_goes_93 (by decide) ?_
            refine zz_goto (pc := 101) C (tgt := 0) dX3_goes_101 (by decide) ?_
            exact zV.less (L' := [some (.ref y), none, none]) ⟨rfl, trivial⟩ (ih r2 (zEvent (σ1, q1) e9).1 (zEvent (σ1, q1) e9).2 _ hR2 (by rw [zEvent_9 h9]; exact hag2) (h232.trans (hz23.trans h23)) (by rw [zEvent_9 h9]; exact hring2) a7 hgo)
        · by_cases h10 : e9.1 = 10
          · skip
            refine zz_aload_n (pc := 0) C dX3_goes_0 rfl ?_
            refine zz_get (pc := 1) C in_X3_goes_X3 (ci := 3) rfl 25 (by decide) (fl_X3_goes_143) rfl dX3_goes_1 hR.2.1 rfl ?_
            refine zz_aload_n (pc := 4) C dX3_goes_4 rfl ?_
            refine zz_get (pc := 5) C in_X3_goes_X3 (ci := 3) rfl 26 (by decide) (fl_X3_goes_101) rfl dX3_goes_5 hR.2.1 rfl ?_
            refine zz_icmp_eq (pc := 8) C (tgt := 104) dX3_goes_8 (by decide) (fun hc8 => ?_) (fun hc8 => ?_)
            · exact absurd hc8 hne
            · refine zz_aload_n (pc := 11) C dX3_goes_11 rfl ?_
              refine zz_get (pc := 12) C in_X3_goes_X3 (ci := 3) rfl 24 (by decide) (fl_X3_goes_81) rfl dX3_goes_12 hR.2.1 rfl ?_
              refine zz_aload_n (pc := 15) C dX3_goes_15 rfl ?_
              refine zz_get (pc := 16) C in_X3_goes_X3 (ci := 3) rfl 25 (by decide) (fl_X3_goes_143) rfl dX3_goes_16 hR.2.1 rfl ?_
              refine zz_mld (pc := 19) C hR 24 (by decide) rfl dX3_goes_19 hhd (by show _ < 8192; omega) ?_
              rw [hcode]
              refine zz_istore_n (pc := 20) C dX3_goes_20 (Nat.le_of_ble_eq_true rfl) ?_
              refine zz_aload_n (pc := 21) C dX3_goes_21 rfl ?_
              refine zz_aload_n (pc := 22) C dX3_goes_22 rfl ?_
              refine zz_get (pc := 23) C in_X3_goes_X3 (ci := 3) rfl 25 (by decide) (fl_X3_goes_143) rfl dX3_goes_23 hR.2.1 rfl ?_
              refine zz_iconst (pc := 26) C (v := 1) (by decide) dX3_goes_26 ?_
              refine zz_iadd (pc := 27) C dX3_goes_27 ?_
              refine zz_sipush (pc := 28) C (v := 8192) (by decide) dX3_goes_28 ?_
              rw [hhd]
              refine zz_irem (pc := 31) C (a := hd + 1) (d := 8192) dX3_goes_31 (nI_1 hd) (by decide) (by omega) (by decide) (by decide) ?_
              refine zz_mput (pc := 32) C in_X3_goes_X3 hR 25 (by decide) fl_X3_goes_143 dX3_goes_32 (fun G hR => ?_)
              have hringz := hring2z
              have hagz : zAg (zu r1 25 0 (nI ((hd + 1) % 8192))) σ1 := zAg_off hag (by decide)
              have hz23 : (zu r1 25 0 (nI ((hd + 1) % 8192))) 23 = r1 23 := zu_off (by decide)
              refine zz_iload_n (pc := 35) C dX3_goes_35 rfl ?_
              refine zz_bipush (pc := 36) C (v := 50) (by decide) dX3_goes_36 ?_
              refine zz_irem (pc := 38) C (a := zCode e9) (d := 50) dX3_goes_38 rfl (by decide) (by omega) (by decide) (by decide) ?_
              rw [hcd.1]
              refine zz_istore_n (pc := 39) C dX3_goes_39 (Nat.le_of_ble_eq_true rfl) ?_
              refine zz_iload_n (pc := 40) C dX3_goes_40 rfl ?_
              refine zz_sipush (pc := 41) C (v := 1000) (by decide) dX3_goes_41 ?_
              refine zz_idiv (pc := 44) C (a := zCode e9) (d := 1000) dX3_goes_44 rfl (by decide) (by omega) (by decide) (by decide) ?_
              refine zz_lookup (pc := 45) C (tgt := 96) (off := 51) dX3_goes_45 (by decide) (by rw [(show (nI (zCode e9 / 1000)) = 3 from by rw [hcd.2.2.2.1 h10]; decide)]; decide) (by decide) ?_
              refine zz_aload_n (pc := 96) C dX3_goes_96 rfl ?_
              refine zz_iload_n (pc := 97) C dX3_goes_97 rfl ?_
              refine zz_callV (pc := 98) C (c_X3_stands l D hR (σ := σ1) (q := q1) hagz (p9 := e9.2) (by have := hok.2.2.1; omega) a2 (a5 (by omega)) hringz (by omega)) gX3_goes_X3_stands rfl 1 (by decide +kernel) ⟨Nat.le_of_ble_eq_true rfl, Nat.le_of_ble_eq_true rfl⟩ hR.2.1 (ci := 3) rfl rfl rfl dX3_goes_98 rfl (Nat.le_of_ble_eq_true rfl) rfl ⟨Nat.le_of_ble_eq_true rfl, Nat.le_of_ble_eq_true rfl⟩ ?_
              rintro v G9 ⟨rfl, r2, hR2, hag2, h232, hring2⟩
              refine zz_goto (pc := 101) C (tgt := 0) dX3_goes_101 (by decide) ?_
              exact zV.less (L' := [some (.ref y), none, none]) ⟨rfl, trivial⟩ (ih r2 (zEvent (σ1, q1) e9).1 (zEvent (σ1, q1) e9).2 _ hR2 (by rw [zEvent_10 h10]; exact hag2) (h232.trans (hz23.trans h23)) (by rw [zEvent_10 h10]; exact hring2) a7 hgo)
          · have hlt9 : e9.1 < 9 := by have := hok.1; omega
            refine zz_aload_n (pc := 0) C dX3_goes_0 rfl ?_
            refine zz_get (pc := 1) C in_X3_goes_X3 (ci := 3) rfl 25 (by decide) (fl_X3_goes_143) rfl dX3_goes_1 hR.2.1 rfl ?_
            refine zz_aload_n (pc := 4) C dX3_goes_4 rfl ?_
            refine zz_get (pc := 5) C in_X3_goes_X3 (ci := 3) rfl 26 (by decide) (fl_X3_goes_101) rfl dX3_goes_5 hR.2.1 rfl ?_
            refine zz_icmp_eq (pc := 8) C (tgt := 104) dX3_goes_8 (by decide) (fun hc8 => ?_) (fun hc8 => ?_)
            · exact absurd hc8 hne
            · refine zz_aload_n (pc := 11) C dX3_goes_11 rfl ?_
              refine zz_get (pc := 12) C in_X3_goes_X3 (ci := 3) rfl 24 (by decide) (fl_X3_goes_81) rfl dX3_goes_12 hR.2.1 rfl ?_
              refine zz_aload_n (pc := 15) C dX3_goes_15 rfl ?_
              refine zz_get (pc := 16) C in_X3_goes_X3 (ci := 3) rfl 25 (by decide) (fl_X3_goes_143) rfl dX3_goes_16 hR.2.1 rfl ?_
              refine zz_mld (pc := 19) C hR 24 (by decide) rfl dX3_goes_19 hhd (by show _ < 8192; omega) ?_
              rw [hcode]
              refine zz_istore_n (pc := 20) C dX3_goes_20 (Nat.le_of_ble_eq_true rfl) ?_
              refine zz_aload_n (pc := 21) C dX3_goes_21 rfl ?_
              refine zz_aload_n (pc := 22) C dX3_goes_22 rfl ?_
              refine zz_get (pc := 23) C in_X3_goes_X3 (ci := 3) rfl 25 (by decide) (fl_X3_goes_143) rfl dX3_goes_23 hR.2.1 rfl ?_
              refine zz_iconst (pc := 26) C (v := 1) (by decide) dX3_goes_26 ?_
              refine zz_iadd (pc := 27) C dX3_goes_27 ?_
              refine zz_sipush (pc := 28) C (v := 8192) (by decide) dX3_goes_28 ?_
              rw [hhd]
              refine zz_irem (pc := 31) C (a := hd + 1) (d := 8192) dX3_goes_31 (nI_1 hd) (by decide) (by omega) (by decide) (by decide) ?_
              refine zz_mput (pc := 32) C in_X3_goes_X3 hR 25 (by decide) fl_X3_goes_143 dX3_goes_32 (fun G hR => ?_)
              have hringz := hring2z
              have hagz : zAg (zu r1 25 0 (nI ((hd + 1) % 8192))) σ1 := zAg_off hag (by decide)
              have hz23 : (zu r1 25 0 (nI ((hd + 1) % 8192))) 23 = r1 23 := zu_off (by decide)
              refine zz_iload_n (pc := 35) C dX3_goes_35 rfl ?_
              refine zz_bipush (pc := 36) C (v := 50) (by decide) dX3_goes_36 ?_
              refine zz_irem (pc := 38) C (a := zCode e9) (d := 50) dX3_goes_38 rfl (by decide) (by omega) (by decide) (by decide) ?_
              rw [hcd.1]
              refine zz_istore_n (pc := 39) C dX3_goes_39 (Nat.le_of_ble_eq_true rfl) ?_
              refine zz_iload_n (pc := 40) C dX3_goes_40 rfl ?_
              refine zz_sipush (pc := 41) C (v := 1000) (by decide) dX3_goes_41 ?_
              refine zz_idiv (pc := 44) C (a := zCode e9) (d := 1000) dX3_goes_44 rfl (by decide) (by omega) (by decide) (by decide) ?_
              refine zz_lookup (pc := 45) C (tgt := 72) (off := 27) dX3_goes_45 (by decide) (by rw [(show (nI (zCode e9 / 1000)) = 1 from by rw [(hcd.2.2.2.2 hlt9).1]; decide)]; decide) (by decide) ?_
              refine zz_aload_n (pc := 72) C dX3_goes_72 rfl ?_
              refine zz_iload_n (pc := 73) C dX3_goes_73 rfl ?_
              refine zz_iload_n (pc := 74) C dX3_goes_74 rfl ?_
              refine zz_sipush (pc := 75) C (v := 1000) (by decide) dX3_goes_75 ?_
              refine zz_irem (pc := 78) C (a := zCode e9) (d := 1000) dX3_goes_78 rfl (by decide) (by omega) (by decide) (by decide) ?_
              refine zz_bipush (pc := 79) C (v := 50) (by decide) dX3_goes_79 ?_
              refine zz_idiv (pc := 81) C (a := zCode e9 % 1000) (d := 50) dX3_goes_81 rfl (by decide) (by omega) (by decide) (by decide) ?_
              rw [(hcd.2.2.2.2 hlt9).2]
              refine zz_callV (pc := 82) C (c_X3_comes l D hR (σ := σ1) (q := q1) hagz (p9 := e9.2) (sg := e9.1) (by have := hok.2.2.1; omega) a2 a3 a4 hlt9 hringz a6) gX3_goes_X3_comes rfl 2 (by decide +kernel) ⟨Nat.le_of_ble_eq_true rfl, Nat.le_of_ble_eq_true rfl⟩ hR.2.1 (ci := 3) rfl rfl rfl dX3_goes_82 rfl (Nat.le_of_ble_eq_true rfl) rfl ⟨Nat.le_of_ble_eq_true rfl, Nat.le_of_ble_eq_true rfl⟩ ?_
              rintro v G9 ⟨rfl, r2, hR2, hag2, h232, hring2⟩
              refine zz_goto (pc := 85) C (tgt := 101) dX3_goes_85 (by decide) ?_
              refine zz_goto (pc := 101) C (tgt := 0) dX3_goes_101 (by decide) ?_
              exact zV.less (L' := [some (.ref y), none, none]) ⟨rfl, trivial⟩ (ih r2 (zEvent (σ1, q1) e9).1 (zEvent (σ1, q1) e9).2 _ hR2 (by rw [zEvent_s hlt9]; exact hag2) (h232.trans (hz23.trans h23)) (by rw [zEvent_s hlt9]; exact hring2) a7 hgo)
  exact kL N r σ q G hR hag rfl hring hrun rfl
