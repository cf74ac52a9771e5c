theorem c_clLook (l : Launch) (D : va_G) {B G : zG} {x tb ev : Nat} {A : Nat → Nat} {σ : zS} {q : List zEv} {h m0 : Nat} {x9 : Int32} (hC : zCl B x tb ev A σ q h m0 G) : zMet D l yX2_lookUp wsX2_lookUp ({ frames := 0, cells := 0, slots := 0, locals := 0 } : Room) [.ref x, .int x9] G (fun v G9 => ((¬ zHere σ x9 ∧ v = some .null) ∨ (zHere σ x9 ∧ v = some (.ref (A (pn x9))))) ∧ G9 = G) := by
  obtain ⟨hm, ka, pa, F, fk, fp, ck, cp, hB⟩ := hC
  refine (c_X2_lookUp l D hB).imp ?_
  rintro v G9 ⟨h1 | ⟨a, h1, h2, h3⟩, rfl⟩
  · exact ⟨Or.inl h1, rfl⟩
  · exact ⟨Or.inr ⟨h1, by rw [h3, (zTA_at h2).1]⟩, rfl⟩
theorem zHere_1 {σ : zS} (h : σ 0 1 ≠ 0) : zHere σ 1 := ⟨by decide, by decide, h⟩
theorem zHeir_1 {σ : zS} {n : Nat} : zHeir (n + 1) σ 1 = 1 := by unfold zHeir; rw [if_pos rfl]
theorem zHeir_r {σ : zS} {n k : Nat} (h : k ≠ 1) (hr : σ 13 k ≠ 0 ∧ σ 4 k = 0) : zHeir (n + 1) σ k = k := by unfold zHeir; rw [if_neg h, if_pos hr]
theorem zHeir_u {σ : zS} {n k j : Nat} (h : k ≠ 1) (hr : ¬ (σ 13 k ≠ 0 ∧ σ 4 k = 0)) (hj : σ 1 k = nI j) (hj2 : j < 41) : zHeir (n + 1) σ k = zHeir n σ j := by
  conv => lhs; unfold zHeir
  rw [if_neg h, if_neg hr, hj, show pn (nI j) = j from nI_clamp (by omega)]
theorem zAnc.th {n : Nat} {σ : zS} {k : Nat} (h : zAnc n σ k) (h1 : σ 0 1 ≠ 0) : σ 0 k ≠ 0 := by
  cases n with
  | zero => rw [show k = 1 from h]; exact h1
  | succ n =>
    rcases h with h | h
    · rw [h]; exact h1
    · exact h.2.2.1
theorem z40le {i : Nat} (h : i < 40) : ¬ (40 : Int32) ≤ nI i := fun z => by
  have := (nI_leI (a := 40) (b := i) (by decide) (by omega)).mp z
  omega
theorem fl_X2_heirOf_147 : Cond.fieldLink RX2 147 "Signalpost$Proc" "parent" "LSignalpost$Proc;" ∈ wsX2_heirOf := by decide +kernel
theorem fl_X2_heirOf_119 : Cond.fieldLink RX2 119 "Signalpost$Proc" "reaper" "Z" ∈ wsX2_heirOf := by decide +kernel
theorem fl_X2_heirOf_194 : Cond.fieldLink RX2 194 "Signalpost$Proc" "zombie" "Z" ∈ wsX2_heirOf := by decide +kernel
theorem in_X2_heirOf_X1 : ∀ w ∈ u_ws RX1 TX1 20, w ∈ wsX2_heirOf := by decide +kernel
set_option maxHeartbeats 4000000 in
set_option maxRecDepth 100000 in
theorem c_X2_heirOf (l : Launch) (D : va_G) {B G : zG} {x tb ev : Nat} {A : Nat → Nat} {σ : zS} {q : List zEv} {h m0 : Nat} {p9 j : Nat} (hC : zCl B x tb ev A σ q h m0 G) (h10 : σ 0 1 ≠ 0) (h13 : σ 13 1 = 0) (hp : p9 < 41) (hp0 : σ 0 p9 ≠ 0) (hp1 : p9 ≠ 1) (hj : σ 1 p9 = nI j) (ha : zAnc 39 σ j) : zMet D l yX2_heirOf wsX2_heirOf ({ frames := 1, cells := 0, slots := 0, locals := 21 } : Room) [.ref x, .ref (A p9)] G (fun v G9 => v = some (.ref (A (zHeir 40 σ j))) ∧ G9 = G) := by
  refine zMet_of (cc := cX2_heirOf) (maxL := 4) (ret := (some (.object "Signalpost$Proc"))) (by decide) rfl (Nat.le_of_ble_eq_true rfl) ?_
  intro p e s m args below meth c C hmn
  have h1 : σ 0 1 ≠ 0 := h10
  have kN : ∀ u : Nat, zHeir 40 σ j = 1 → zV p l e ({ frames := 1, cells := 0, slots := 0, locals := 21 } : Room) s m args below meth c D (zA G s.heap.size) 0 0 (zZ below D G (fun v G9 => v = some (.ref (A (zHeir 40 σ j))) ∧ G9 = G) args s ({ frames := 1, cells := 0, slots := 0, locals := 21 } : Room)) G 7 [some (.ref x), some (.ref (A p9)), some .null, some (.int (nI (u)))] [] := by
    intro u hz9
    refine zz_iload_n (pc := 7) C dX2_heirOf_7 rfl ?_
    refine zz_bipush (pc := 8) C (v := 40) (by decide) dX2_heirOf_8 ?_
    refine zz_icmp_ge (pc := 10) C (tgt := 44) dX2_heirOf_10 (by decide) (fun hc10 => ?_) (fun hc10 => ?_)
    · refine zz_aload_n (pc := 44) C dX2_heirOf_44 rfl ?_
      refine zz_iconst (pc := 45) C (v := 1) (by decide) dX2_heirOf_45 ?_
      refine zz_callV (pc := 46) C (c_clLook l D hC (x9 := 1)) gX2_heirOf_X2_lookUp rfl 1 (by decide +kernel) ⟨Nat.le_of_ble_eq_true rfl, Nat.le_of_ble_eq_true rfl⟩ hC.x (ci := 2) rfl rfl rfl dX2_heirOf_46 rfl (Nat.le_of_ble_eq_true rfl) rfl ⟨Nat.le_of_ble_eq_true rfl, Nat.le_of_ble_eq_true rfl⟩ ?_
      rintro v G9 ⟨hz, rfl⟩
      obtain rfl : v = some (.ref (A 1)) := (hz.resolve_left (fun u => u.1 (zHere_1 h1))).2
      exact zz_areturn (pc := 49) C dX2_heirOf_49 (Or.inl ⟨_, rfl⟩) (Or.inr ⟨_, rfl⟩) (Nat.le_refl _) (Nat.le_refl _) ⟨by rw [hz9], rfl⟩
    · refine zz_aloadN_n (pc := 13) C dX2_heirOf_13 rfl ?_
      refine zz_ifnullN (pc := 14) C (tgt := 44) dX2_heirOf_14 (by decide) ?_
      refine zz_aload_n (pc := 44) C dX2_heirOf_44 rfl ?_
      refine zz_iconst (pc := 45) C (v := 1) (by decide) dX2_heirOf_45 ?_
      refine zz_callV (pc := 46) C (c_clLook l D hC (x9 := 1)) gX2_heirOf_X2_lookUp rfl 1 (by decide +kernel) ⟨Nat.le_of_ble_eq_true rfl, Nat.le_of_ble_eq_true rfl⟩ hC.x (ci := 2) rfl rfl rfl dX2_heirOf_46 rfl (Nat.le_of_ble_eq_true rfl) rfl ⟨Nat.le_of_ble_eq_true rfl, Nat.le_of_ble_eq_true rfl⟩ ?_
      rintro v G9 ⟨hz, rfl⟩
      obtain rfl : v = some (.ref (A 1)) := (hz.resolve_left (fun u => u.1 (zHere_1 h1))).2
      exact zz_areturn (pc := 49) C dX2_heirOf_49 (Or.inl ⟨_, rfl⟩) (Or.inr ⟨_, rfl⟩) (Nat.le_refl _) (Nat.le_refl _) ⟨by rw [hz9], rfl⟩
  have loop : ∀ (d k u : Nat), u + d = 39 → zAnc d σ k → zHeir (d + 1) σ k = zHeir 40 σ j → zV p l e ({ frames := 1, cells := 0, slots := 0, locals := 21 } : Room) s m args below meth c D (zA G s.heap.size) 0 0 (zZ below D G (fun v G9 => v = some (.ref (A (zHeir 40 σ j))) ∧ G9 = G) args s ({ frames := 1, cells := 0, slots := 0, locals := 21 } : Room)) G 7 [some (.ref x), some (.ref (A p9)), some (.ref (A (k))), some (.int (nI (u)))] [] := by
    intro d
    induction d with
    | zero =>
      intro k u hu ha hz
      have hk0 := ha.th h1
      have hkin := ha.in
      obtain ⟨g, hGk, hPk, _⟩ := hC.at hkin.2 hk0
      have hk1 : k = 1 := ha
      subst hk1
      rw [zPar_1] at hGk
      refine zz_iload_n (pc := 7) C dX2_heirOf_7 rfl ?_
      refine zz_bipush (pc := 8) C (v := 40) (by decide) dX2_heirOf_8 ?_
      refine zz_icmp_ge (pc := 10) C (tgt := 44) dX2_heirOf_10 (by decide) (fun hc10 => ?_) (fun hc10 => ?_)
      · exact absurd hc10 (z40le (by omega))
      · refine zz_aload_n (pc := 13) C dX2_heirOf_13 rfl ?_
        refine zz_ifnull (pc := 14) C dX2_heirOf_14 ?_
        refine zz_aload_n (pc := 17) C dX2_heirOf_17 rfl ?_
        refine zz_get (pc := 18) C in_X2_heirOf_X1 (ci := 1) rfl 4 (by decide) (fl_X2_heirOf_119) rfl dX2_heirOf_18 hGk rfl ?_
        refine zz_if_eq (pc := 21) C (tgt := 33) dX2_heirOf_21 (by decide) (fun hc21 => ?_) (fun hc21 => ?_)
        · refine zz_aload_n (pc := 33) C dX2_heirOf_33 rfl ?_
          refine zz_get (pc := 34) C in_X2_heirOf_X1 (ci := 1) rfl 1 (by decide) (fl_X2_heirOf_147) rfl dX2_heirOf_34 hGk rfl ?_
          refine zz_astoreN_n (pc := 37) C dX2_heirOf_37 (Nat.le_of_ble_eq_true rfl) ?_
          refine zz_iinc (pc := 38) C dX2_heirOf_38 rfl ?_
          refine zz_goto (pc := 41) C (tgt := 7) dX2_heirOf_41 (by decide) ?_
          exact zV.less (L' := [some (.ref x), some (.ref (A p9)), some .null, some (.int (nI (u + 1)))]) ⟨rfl, rfl, rfl, zvi (z1i u), trivial⟩ (kN (u + 1) (by rw [← hz, zHeir_1]))
        · exact absurd (hPk.2.2.2.1.trans h13) hc21
    | succ d ih =>
      intro k u hu ha hz
      have hk0 := ha.th h1
      have hkin := ha.in
      obtain ⟨g, hGk, hPk, _⟩ := hC.at hkin.2 hk0
      by_cases hk1 : k = 1
      · subst hk1
        rw [zPar_1] at hGk
        refine zz_iload_n (pc := 7) C dX2_heirOf_7 rfl ?_
        refine zz_bipush (pc := 8) C (v := 40) (by decide) dX2_heirOf_8 ?_
        refine zz_icmp_ge (pc := 10) C (tgt := 44) dX2_heirOf_10 (by decide) (fun hc10 => ?_) (fun hc10 => ?_)
        · exact absurd hc10 (z40le (by omega))
        · refine zz_aload_n (pc := 13) C dX2_heirOf_13 rfl ?_
          refine zz_ifnull (pc := 14) C dX2_heirOf_14 ?_
          refine zz_aload_n (pc := 17) C dX2_heirOf_17 rfl ?_
          refine zz_get (pc := 18) C in_X2_heirOf_X1 (ci := 1) rfl 4 (by decide) (fl_X2_heirOf_119) rfl dX2_heirOf_18 hGk rfl ?_
          refine zz_if_eq (pc := 21) C (tgt := 33) dX2_heirOf_21 (by decide) (fun hc21 => ?_) (fun hc21 => ?_)
          · refine zz_aload_n (pc := 33) C dX2_heirOf_33 rfl ?_
            refine zz_get (pc := 34) C in_X2_heirOf_X1 (ci := 1) rfl 1 (by decide) (fl_X2_heirOf_147) rfl dX2_heirOf_34 hGk rfl ?_
            refine zz_astoreN_n (pc := 37) C dX2_heirOf_37 (Nat.le_of_ble_eq_true rfl) ?_
            refine zz_iinc (pc := 38) C dX2_heirOf_38 rfl ?_
            refine zz_goto (pc := 41) C (tgt := 7) dX2_heirOf_41 (by decide) ?_
            exact zV.less (L' := [some (.ref x), some (.ref (A p9)), some .null, some (.int (nI (u + 1)))]) ⟨rfl, rfl, rfl, zvi (z1i u), trivial⟩ (kN (u + 1) (by rw [← hz, zHeir_1]))
          · exact absurd (hPk.2.2.2.1.trans h13) hc21
      · obtain ⟨a1, a2, a3, j2, a4, a5, a6, a7⟩ := ha.resolve_left hk1
        rw [zPar_n hk1 a4 a6 (zTA_y (a7.th h1))] at hGk
        refine zz_iload_n (pc := 7) C dX2_heirOf_7 rfl ?_
        refine zz_bipush (pc := 8) C (v := 40) (by decide) dX2_heirOf_8 ?_
        refine zz_icmp_ge (pc := 10) C (tgt := 44) dX2_heirOf_10 (by decide) (fun hc10 => ?_) (fun hc10 => ?_)
        · exact absurd hc10 (z40le (by omega))
        · refine zz_aload_n (pc := 13) C dX2_heirOf_13 rfl ?_
          refine zz_ifnull (pc := 14) C dX2_heirOf_14 ?_
          refine zz_aload_n (pc := 17) C dX2_heirOf_17 rfl ?_
          refine zz_get (pc := 18) C in_X2_heirOf_X1 (ci := 1) rfl 4 (by decide) (fl_X2_heirOf_119) rfl dX2_heirOf_18 hGk rfl ?_
          refine zz_if_eq (pc := 21) C (tgt := 33) dX2_heirOf_21 (by decide) (fun hc21 => ?_) (fun hc21 => ?_)
          · refine zz_aload_n (pc := 33) C dX2_heirOf_33 rfl ?_
            refine zz_get (pc := 34) C in_X2_heirOf_X1 (ci := 1) rfl 1 (by decide) (fl_X2_heirOf_147) rfl dX2_heirOf_34 hGk rfl ?_
            refine zz_astore_n (pc := 37) C dX2_heirOf_37 (Nat.le_of_ble_eq_true rfl) ?_
            refine zz_iinc (pc := 38) C dX2_heirOf_38 rfl ?_
            refine zz_goto (pc := 41) C (tgt := 7) dX2_heirOf_41 (by decide) ?_
            first
              | exact zV.less (L' := [some (.ref x), some (.ref (A p9)), some (.ref (A (j2))), some (.int (nI (u + 1)))]) ⟨rfl, rfl, rfl, zvi (z1i u), trivial⟩ (ih j2 (u + 1) (by omega) a7 (by rw [← hz]; exact (zHeir_u hk1 (fun z => z.1 (hPk.2.2.2.1.symm.trans hc21)) a4 a6).symm))
              | exact zV.less (L' := [some (.ref x), some (.ref (A p9)), some (.ref (A (j2))), some (.int (nI (u + 1)))]) ⟨rfl, rfl, rfl, zvi (z1i u), trivial⟩ (ih j2 (u + 1) (by omega) a7 (by rw [← hz]; exact (zHeir_u hk1 (fun z => hc28 (hPk.2.2.2.2.1.trans z.2)) a4 a6).symm))
          · refine zz_aload_n (pc := 24) C dX2_heirOf_24 rfl ?_
            refine zz_get (pc := 25) C in_X2_heirOf_X1 (ci := 1) rfl 5 (by decide) (fl_X2_heirOf_194) rfl dX2_heirOf_25 hGk rfl ?_
            refine zz_if_ne (pc := 28) C (tgt := 33) dX2_heirOf_28 (by decide) (fun hc28 => ?_) (fun hc28 => ?_)
            · refine zz_aload_n (pc := 33) C dX2_heirOf_33 rfl ?_
              refine zz_get (pc := 34) C in_X2_heirOf_X1 (ci := 1) rfl 1 (by decide) (fl_X2_heirOf_147) rfl dX2_heirOf_34 hGk rfl ?_
              refine zz_astore_n (pc := 37) C dX2_heirOf_37 (Nat.le_of_ble_eq_true rfl) ?_
              refine zz_iinc (pc := 38) C dX2_heirOf_38 rfl ?_
              refine zz_goto (pc := 41) C (tgt := 7) dX2_heirOf_41 (by decide) ?_
              first
                | exact zV.less (L' := [some (.ref x), some (.ref (A p9)), some (.ref (A (j2))), some (.int (nI (u + 1)))]) ⟨rfl, rfl, rfl, zvi (z1i u), trivial⟩ (ih j2 (u + 1) (by omega) a7 (by rw [← hz]; exact (zHeir_u hk1 (fun z => z.1 (hPk.2.2.2.1.symm.trans hc21)) a4 a6).symm))
                | exact zV.less (L' := [some (.ref x), some (.ref (A p9)), some (.ref (A (j2))), some (.int (nI (u + 1)))]) ⟨rfl, rfl, rfl, zvi (z1i u), trivial⟩ (ih j2 (u + 1) (by omega) a7 (by rw [← hz]; exact (zHeir_u hk1 (fun z => hc28 (hPk.2.2.2.2.1.trans z.2)) a4 a6).symm))
            · refine zz_aload_n (pc := 31) C dX2_heirOf_31 rfl ?_
              exact zz_areturn (pc := 32) C dX2_heirOf_32 (Or.inl ⟨_, rfl⟩) (Or.inr ⟨_, rfl⟩) (Nat.le_refl _) (Nat.le_refl _) ⟨by rw [← hz, zHeir_r hk1 ⟨fun z => hc21 (hPk.2.2.2.1.trans z), hPk.2.2.2.2.1.symm.trans (Classical.not_not.mp hc28)⟩], rfl⟩
  obtain ⟨f, hGp, hPp, _⟩ := hC.at hp hp0
  rw [zPar_n hp1 hj ha.in.2 (zTA_y (ha.th h1))] at hGp
  refine zz_aload_n (pc := 0) C dX2_heirOf_0 rfl ?_
  refine zz_get (pc := 1) C in_X2_heirOf_X1 (ci := 1) rfl 1 (by decide) (fl_X2_heirOf_147) rfl dX2_heirOf_1 hGp rfl ?_
  refine zz_astore_n (pc := 4) C dX2_heirOf_4 (Nat.le_of_ble_eq_true rfl) ?_
  refine zz_iconst (pc := 5) C (v := 0) (by decide) dX2_heirOf_5 ?_
  refine zz_istore_n (pc := 6) C dX2_heirOf_6 (Nat.le_of_ble_eq_true rfl) ?_
  exact zV.less (L' := [some (.ref x), some (.ref (A p9)), some (.ref (A (j))), some (.int (nI (0)))]) ⟨rfl, rfl, rfl, rfl, trivial⟩ (loop 39 j 0 rfl ha rfl)
theorem zCl.par {B : zG} {x tb ev : Nat} {A : Nat → Nat} {σ : zS} {q : List zEv} {h m0 : Nat} {G : zG} (hC : zCl B x tb ev A σ q h m0 G) {k hh : Nat} {f : Nat → Int32} (hk : k < 41) (h0 : σ 0 k ≠ 0) (hk1 : k ≠ 1) (hh1 : hh < 41) (hh0 : σ 0 hh ≠ 0) (hPk : zPF σ k f) : zCl B x tb ev A (zu σ 1 k (nI hh)) q h m0 (zU G (A k) (1, .inr (1, zPr (.ref (A hh)) f))) := by
  obtain ⟨hm, ka, pa, F, fk, fp, ck, cp, hB⟩ := hC
  have e0 : ∀ j, (zu σ 1 k (nI hh)) 0 j = σ 0 j := fun j => rfl
  have e : zTA (zu σ 1 k (nI hh)) A = zTA σ A := zTA_ag e0
  refine ⟨hm, ka, pa, (fun j => if j = k then f else F j), fk, fp, ck, cp, ?_⟩
  rw [e]
  refine zCls_proc hB hk h0 (zTA_y h0) e0 (fun j hj _ => by simp [zu, hj]) ?_ ⟨rfl, rfl⟩ (fun j f hj hne hz => zPF_ag (fun g b1 b2 b3 => by rw [zu_off (by omega)]) (fun s hs => rfl) hz) (zPF_ag (fun g b1 b2 b3 => by rw [zu_off (by omega)]) (fun s hs => rfl) hPk)
  rw [zPar_n hk1 (show (zu σ 1 k (nI hh)) 1 k = nI hh by simp [zu]) hh1 (zTA_y hh0)]
def zZmS (σ : zS) (p : Nat) (w : Int64) (n : Nat) : Prop := ∀ g, g < 64 → (zlbit w g = true ↔ g < n ∧ zWasZ σ p g)
theorem zZmS_no {σ : zS} {p n : Nat} {w : Int64} (h : zZmS σ p w n) (hn : ¬ zWasZ σ p n) : zZmS σ p w (n + 1) := fun g hg => by
  rw [h g hg]
  constructor
  · rintro ⟨a, b⟩
    exact ⟨by omega, b⟩
  · rintro ⟨a, b⟩
    by_cases hgn : g = n
    · rw [hgn] at b; exact absurd b hn
    · exact ⟨by omega, b⟩
theorem zZmS_yes {σ : zS} {p n : Nat} {w : Int64} {u : Int32} (h : zZmS σ p w n) (hn : zWasZ σ p n) (hu : u = nI n) (hn2 : n < 64) : zZmS σ p (w ||| ((1 : Int64) <<< (u.toInt64 &&& 63))) (n + 1) := fun g hg => by
  rw [zlbit_or, hu, show ((1 : Int64) <<< ((nI n).toInt64 &&& 63)) = zlSh n from rfl, zlbit_sh hn2 hg, Bool.or_eq_true, h g hg, decide_eq_true_eq]
  constructor
  · rintro (⟨a, b⟩ | rfl)
    · exact ⟨by omega, b⟩
    · exact ⟨by omega, hn⟩
  · rintro ⟨a, b⟩
    by_cases hgn : g = n
    · exact Or.inr hgn
    · exact Or.inl ⟨by omega, b⟩
theorem zZmS_0 {σ : zS} {p : Nat} : zZmS σ p 0 0 := fun g hg => by
  rw [zlbit_0]
  exact ⟨fun z => (by cases z), fun z => absurd z.1 (by omega)⟩
theorem zlor0 (w : Int64) : w ||| 0 = w := by
  apply zlbit_ext
  intro s hs
  rw [zlbit_or, zlbit_0, Bool.or_false]
