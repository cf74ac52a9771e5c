/-! fork -/
theorem zFree_at {σ : zS} (h : zFreeV σ ≠ -1) : ∃ f, zFreeV σ = nI f ∧ 1 ≤ f ∧ f < 41 ∧ zFreeN σ f 41 := by
  obtain ⟨h1, h2, h3, h4⟩ := zFreeV_at h
  exact ⟨_, h1, h2, h3, h4⟩
theorem zForkA_o {τ : zS} {p f n g : Nat} (h : g ≠ 9) : zForkA τ p f n g = τ g := by
  funext j
  unfold zForkA
  rw [if_neg (fun z => h z.1)]
theorem zFork_o {σ : zS} {x : Int32} {f g k : Nat} (h9 : g ≠ 9) (hk : k ≠ f) : zFork σ x f g k = σ g k := by
  have e : ∀ (τ : zS) (g2 : Nat) (v : Int32), zu τ g2 f v g k = τ g k := fun τ g2 v => by
    by_cases hg : g = g2
    · rw [← hg, zu_iff, if_neg hk]
    · rw [zu_off hg]
  unfold zFork zFork3 zFork1
  rw [e, e, e, e, e, e, e, e, zForkA_o h9, e, e, e, e, e, e, e]
theorem zFork_9 {σ : zS} {x : Int32} {f j : Nat} (hj : j < 9 * f ∨ 9 * f + 9 ≤ j) : zFork σ x f 9 j = σ 9 j := by
  unfold zFork zFork3
  rw [zu_off (by decide), zu_off (by decide), zu_off (by decide), zu_off (by decide), zu_off (by decide), zu_off (by decide), zu_off (by decide), zu_off (by decide)]
  unfold zForkA
  rw [if_neg (by omega)]
  unfold zFork1
  rw [zu_off (by decide), zu_off (by decide), zu_off (by decide), zu_off (by decide), zu_off (by decide), zu_off (by decide), zu_off (by decide)]
theorem zFork_9f {σ : zS} {x : Int32} {f t : Nat} (ht : t < 9) : zFork σ x f 9 (9 * f + t) = σ 9 (9 * pn x + t) := by
  unfold zFork zFork3
  rw [zu_off (by decide), zu_off (by decide), zu_off (by decide), zu_off (by decide), zu_off (by decide), zu_off (by decide), zu_off (by decide), zu_off (by decide)]
  unfold zForkA
  rw [if_pos ⟨rfl, by omega, by omega⟩, show 9 * f + t - 9 * f = t by omega]
  unfold zFork1
  rw [zu_off (by decide), zu_off (by decide), zu_off (by decide), zu_off (by decide), zu_off (by decide), zu_off (by decide), zu_off (by decide)]
theorem zFork_f {σ : zS} {x : Int32} {f : Nat} (hpf : pn x ≠ f) : zFork σ x f 0 f = 1 ∧ zFork σ x f 1 f = x ∧ zFork σ x f 2 f = σ 2 (pn x) ∧ zFork σ x f 3 f = σ 3 (pn x) ∧ zFork σ x f 4 f = 0 ∧ zFork σ x f 5 f = 0 ∧ zFork σ x f 6 f = 0 ∧ zFork σ x f 10 f = σ 10 (pn x) ∧ zFork σ x f 11 f = 0 ∧ zFork σ x f 12 f = 0 ∧ zFork σ x f 13 f = 0 ∧ zFork σ x f 17 f = 0 ∧ zFork σ x f 18 f = -1 ∧ zFork σ x f 19 f = -1 ∧ zFork σ x f 20 f = -1 := by
  refine ⟨?_, ?_, ?_, ?_, ?_, ?_, ?_, ?_, ?_, ?_, ?_, ?_, ?_, ?_, ?_⟩ <;> simp [zFork, zFork3, zForkA, zFork1, zu]
theorem zFork_top {σ : zS} {x : Int32} {f g : Nat} (hg : 21 ≤ g) : zFork σ x f g = σ g := by
  unfold zFork zFork3
  rw [zu_off (by omega), zu_off (by omega), zu_off (by omega), zu_off (by omega), zu_off (by omega), zu_off (by omega), zu_off (by omega), zu_off (by omega), zForkA_o (by omega)]
  unfold zFork1
  rw [zu_off (by omega), zu_off (by omega), zu_off (by omega), zu_off (by omega), zu_off (by omega), zu_off (by omega), zu_off (by omega)]
theorem zPF_fork {σ : zS} {x : Int32} {f : Nat} {g : Nat → Int32} (hg : zPF σ (pn x) g) (hpf : pn x ≠ f) : zPF (zFork σ x f) f (zInhF (zNewF (nI f)) g) := by
  obtain ⟨b0, b2, b3, b4, b5, b6, b7, b8, b10, b11, b12, b13, b14, b15, b16, b17, b18, b19⟩ := hg
  obtain ⟨e0, e1, e2, e3, e4, e5, e6, e10, e11, e12, e13, e17, e18, e19, e20⟩ := zFork_f (σ := σ) (x := x) hpf
  have U : ∀ j, j ≠ 2 → j ≠ 3 → j ≠ 12 → j ≠ 13 → j ≠ 14 → zInhF (zNewF (nI f)) g j = zNewF (nI f) j := fun j h1 h2 h3 h4 h5 => by simp [zInhF, upd, h1, h2, h3, h4, h5]
  have u2 : zInhF (zNewF (nI f)) g 2 = g 2 := by simp [zInhF, upd]
  have u3 : zInhF (zNewF (nI f)) g 3 = g 3 := by simp [zInhF, upd]
  have u12 : zInhF (zNewF (nI f)) g 12 = g 12 := by simp [zInhF, upd]
  have u13 : zInhF (zNewF (nI f)) g 13 = g 13 := by simp [zInhF, upd]
  have u14 : zInhF (zNewF (nI f)) g 14 = g 14 := by simp [zInhF, upd]
  have n10 : zNewF (nI f) 10 = -1 := by simp [zNewF, upd]
  unfold zPF zRpt zVal
  rw [e2, e3, e4, e5, e6, e10, e11, e12, e13, e17, e18, e19, e20, u2, u3, u12, u13, u14]
  rw [U 0 (by decide) (by decide) (by decide) (by decide) (by decide), U 4 (by decide) (by decide) (by decide) (by decide) (by decide), U 5 (by decide) (by decide) (by decide) (by decide) (by decide), U 6 (by decide) (by decide) (by decide) (by decide) (by decide), U 7 (by decide) (by decide) (by decide) (by decide) (by decide), U 10 (by decide) (by decide) (by decide) (by decide) (by decide), U 15 (by decide) (by decide) (by decide) (by decide) (by decide), U 16 (by decide) (by decide) (by decide) (by decide) (by decide), U 17 (by decide) (by decide) (by decide) (by decide) (by decide), U 18 (by decide) (by decide) (by decide) (by decide) (by decide), U 19 (by decide) (by decide) (by decide) (by decide) (by decide)]
  refine ⟨by simp [zNewF, upd], b2, b3, by simp [zNewF, upd], by simp [zNewF, upd], by simp [zNewF, upd], by simp [zNewF, upd], fun z => absurd rfl z, by simp [zNewF, upd], fun z => absurd n10 z, fun t ht => ?_, b13, b14, by simp [zNewF, upd], by simp [zNewF, upd], by simp [zNewF, upd], by simp [zNewF, upd], by simp [zNewF, upd]⟩
  rw [zFork_9f ht]
  exact b12 t ht
def zAt {α : Type} (A : Nat → α) (f : Nat) (a : α) : Nat → α := fun k => if k = f then a else A k
theorem zAt_y {α : Type} {A : Nat → α} {f : Nat} {a : α} : zAt A f a f = a := if_pos rfl
theorem zAt_n {α : Type} {A : Nat → α} {f k : Nat} {a : α} (h : k ≠ f) : zAt A f a k = A k := if_neg h
theorem zCl.fork {B G : zG} {x tb ev : Nat} {A : Nat → Nat} {σ : zS} {q : List zEv} {h m0 : Nat} {x9 : Int32} {f a : Nat} {g : Nat → Int32} (hC : zCl B x tb ev A σ q h m0 G) (hW : zWf σ) (ha : G a = none) (hf : f < 41) (hf0 : σ 0 f = 0) (hx : x9 = nI (pn x9)) (hp : pn x9 < 41) (hp0 : σ 0 (pn x9) ≠ 0) (hg : zPF σ (pn x9) g) :
    zCl B x tb ev (zAt A f a) (zFork σ x9 f) q h m0 (zU (zU G a (1, .inr (1, zPr (.ref (A (pn x9))) (zInhF (zNewF (nI f)) g)))) tb (1, .inl (.object "Signalpost$Proc", 41, .inr (.inr (.inr (.inr (va_up (zTA σ A) f (some a)))))))) := by
  have hpf : pn x9 ≠ f := fun z => hp0 (by rw [z]; exact hf0)
  obtain ⟨hm, ka, pa, F, fk, fp, ck, cp, c1, c2, c3, ⟨c4, c5, c6, c7, c8, c9, c10, c11⟩, c12, c13⟩ := hC
  have nxa := zNe c2 ha
  have nta := zNe c3 ha
  have nea := zNe c4 ha
  have nka := zNe c5 ha
  have npa := zNe c6 ha
  have nxt : x ≠ tb := fun z => by rw [z, c3] at c2; cases c2
  have net : ev ≠ tb := fun z => by rw [z, c3] at c4; cases c4
  have nkt : ka ≠ tb := fun z => by rw [z, c3] at c5; cases c5
  have npt : pa ≠ tb := fun z => by rw [z, c3] at c6; cases c6
  obtain ⟨e0, e1, _⟩ := zFork_f (σ := σ) (x := x9) hpf
  have eT : zTA (zFork σ x9 f) (zAt A f a) = va_up (zTA σ A) f (some a) := by
    funext k
    unfold zTA va_up
    by_cases hk : k = f
    · rw [if_pos hk, if_neg (by rw [hk, e0]; decide)]
      show some (zAt A f a k) = some a
      rw [hk, zAt_y]
    · rw [if_neg hk, zFork_o (by decide) hk]
      show (if σ 0 k = 0 then none else some (zAt A f a k)) = _
      rw [zAt_n hk]
  refine ⟨hm, ka, pa, (zAt F f (zInhF (zNewF (nI f)) g)), fk, fp, ck, cp, (c1.new ha).upd (e0 := .inl (.object "Signalpost$Proc", 41, .inr (.inr (.inr (.inr (zTA σ A)))))) (by rw [zU_ne nta]; exact c3), ?_, ?_, ⟨?_, ?_, ?_, c7, c8, c9, c10, c11⟩, fun k hk z => zTA_n z, fun k hk z => ?_⟩
  · rw [zU_ne nxt, zU_ne nxa, zFork_top (by decide), zFork_top (by decide)]; exact c2
  · rw [zU_self, eT]
  · rw [zU_ne net, zU_ne nea]; exact c4
  · rw [zU_ne nkt, zU_ne nka]; exact c5
  · rw [zU_ne npt, zU_ne npa]; exact c6
  · by_cases hkf : k = f
    · rw [hkf] at z ⊢
      have hf1 : f ≠ 1 := fun y => by rw [y, hW.x.1] at hf0; exact absurd hf0 (by decide)
      have nta2 : a ≠ tb := fun y => nta y.symm
      refine ⟨a, by rw [eT]; simp [va_up], ?_, by rw [zAt_y]; exact zPF_fork hg hpf⟩
      rw [zU_ne nta2, zU_self, zAt_y, zPar_n hf1 (e1.trans hx) hp (show zTA (zFork σ x9 f) (zAt A f a) (pn x9) = some (A (pn x9)) by rw [eT]; unfold va_up; rw [if_neg hpf]; exact zTA_y hp0)]
    · rw [zFork_o (by decide) hkf] at z
      obtain ⟨b, g1, g2, g3⟩ := c13 k hk z
      have nb := zNe g2 ha
      have nbt : b ≠ tb := fun y => by rw [y, c3] at g2; cases g2
      refine ⟨b, by rw [eT]; unfold va_up; rw [if_neg hkf]; exact g1, ?_, ?_⟩
      · rw [zU_ne nbt, zU_ne nb, g2, zAt_n hkf]
        congr 5
        unfold zPar
        by_cases hk1 : k = 1
        · rw [if_pos hk1, if_pos hk1]
        · rw [if_neg hk1, if_neg hk1, zFork_o (by decide) hkf, eT]
          obtain ⟨j, j1, j2, j3, j4, j5, j6⟩ := hW.par z hk1
          have : pn (σ 1 k) ≠ f := fun y => by
            rw [j1, show pn (nI j) = j from nI_clamp (by omega)] at y
            rw [y] at j5
            exact j5 hf0
          unfold va_up
          rw [if_neg this]
      · rw [zAt_n hkf]
        exact zPF_ag (fun gg b1 b2 b3 => zFork_o b3 hkf) (fun s hs => zFork_9 (by omega)) g3
theorem c_clFree (l : Launch) (D : va_G) {B G : zG} {x tb ev : Nat} {A : Nat → Nat} {σ : zS} {q : List zEv} {h m0 : Nat} (hC : zCl B x tb ev A σ q h m0 G) (hH : zHas σ) : zMet D l yX2_lowestFreePid wsX2_lowestFreePid ({ frames := 1, cells := 0, slots := 0, locals := 22 } : Room) [.ref x] G (fun v G9 => v = some (.int (zFreeV σ)) ∧ G9 = G) := by
  obtain ⟨hm, ka, pa, F, fk, fp, ck, cp, hB⟩ := hC
  exact c_X2_lowestFreePid l D hB hH
theorem inn_X2_fork_X1 : ∀ w ∈ u_ws RX1 TX1 20, w ∈ wsX2_fork := by decide +kernel
theorem fl_X2_fork_11 : Cond.fieldLink RX2 11 "Signalpost" "table" "[LSignalpost$Proc;" ∈ wsX2_fork := by decide +kernel
theorem in_X2_fork_X2 : ∀ w ∈ u_ws RX2 TX2 4, w ∈ wsX2_fork := by decide +kernel
theorem kc_X2_fork_43 : Cond.classLink RX2 43 "java/lang/IllegalStateException" ∈ wsX2_fork := by decide +kernel
theorem ki_X2_fork_43 : Cond.initialized "java/lang/IllegalStateException" ∈ wsX2_fork := by decide +kernel
theorem ka_X2_fork_43 : ∀ w ∈ (vx_atS RX2 47 "java/lang/IllegalStateException" ["java/lang/RuntimeException", "java/lang/Exception"]).filter goodWord, w ∈ wsX2_fork := by decide +kernel
theorem kb_X2_fork_43 : ∀ w ∈ (vx_atS RX2 47 "java/lang/IllegalStateException" ["java/lang/RuntimeException", "java/lang/Exception"]).filter (fun w => !goodWord w), w ∈ zFaces := by decide +kernel
theorem kg_X2_fork_43 : ∀ w ∈ Cond.classLink RX2 43 "java/lang/IllegalStateException" :: Cond.initialized "java/lang/IllegalStateException" :: vx_atS RX2 47 "java/lang/IllegalStateException" ["java/lang/RuntimeException", "java/lang/Exception"], vx_ot w = true := by decide +kernel
set_option maxHeartbeats 4000000 in
set_option maxRecDepth 100000 in
theorem c_X2_fork (l : Launch) (hl : l.stackTraces = false) (D : va_G) {B G : zG} {x tb ev : Nat} {A : Nat → Nat} {σ : zS} {q : List zEv} {h m0 : Nat} {x9 : Int32} (hC : zCl B x tb ev A σ q h m0 G) (hW : zWf σ) : zxMet D l yX2_fork wsX2_fork ({ frames := 7, cells := 3, slots := 40, locals := 112 } : Room) [.ref x, .int x9] G (fun v G9 => zE2 (¬ zHere σ x9) (¬ zRunN σ (pn x9) ∨ zFreeV σ = -1) = 0 ∧ v = some (.int (zFreeV σ)) ∧ ∃ A9 : Nat → Nat, zCl B x tb ev A9 (zFork σ x9 (pn (zFreeV σ))) q h m0 G9) (fun E => (zE2 (¬ zHere σ x9) (¬ zRunN σ (pn x9) ∨ zFreeV σ = -1) = 1 ∧ E = "java/lang/IndexOutOfBoundsException") ∨ (zE2 (¬ zHere σ x9) (¬ zRunN σ (pn x9) ∨ zFreeV σ = -1) = 2 ∧ E = "java/lang/IllegalStateException")) := by
  refine zxMet_of (cc := cX2_fork) (maxL := 5) (ret := (some .int)) (by decide) rfl (Nat.le_of_ble_eq_true rfl) ?_
  intro p e s m args below meth c C hnx h8
  refine zz_aload_n (pc := 0) C dX2_fork_0 rfl ?_
  refine zz_iload_n (pc := 1) C dX2_fork_1 rfl ?_
  refine zzx_callV (pc := 2) C h8 (c_X2_find l hl D hC (x9 := x9)) gX2_fork_X2_find rfl 1 (by decide +kernel) ⟨Nat.le_of_ble_eq_true rfl, Nat.le_of_ble_eq_true rfl⟩ hC.x (ci := 2) rfl rfl rfl dX2_fork_2 rfl (Nat.le_of_ble_eq_true rfl) rfl ⟨Nat.le_of_ble_eq_true rfl, Nat.le_of_ble_eq_true rfl⟩ (fun E hE => zzx_out C hnx (Or.inl ⟨zE2_1 hE.1, hE.2⟩) (Nat.le_of_ble_eq_true rfl) (Nat.le_of_ble_eq_true rfl)) ?_
  rintro v G9 ⟨hth, rfl, rfl⟩
  obtain ⟨hx1, hx2, hx3⟩ := hth.at
  obtain ⟨f, hGa, hPF, hup⟩ := hC.at (k := pn x9) hx3 hth.2.2
  refine zz_astore_n (pc := 5) C dX2_fork_5 (Nat.le_of_ble_eq_true rfl) ?_
  refine zz_aload_n (pc := 6) C dX2_fork_6 rfl ?_
  refine zz_callV (pc := 7) C (c_clFree l D hC hW.has) gX2_fork_X2_lowestFreePid rfl 0 (by decide +kernel) ⟨Nat.le_of_ble_eq_true rfl, Nat.le_of_ble_eq_true rfl⟩ hC.x (ci := 2) rfl rfl rfl dX2_fork_7 rfl (Nat.le_of_ble_eq_true rfl) rfl ⟨Nat.le_of_ble_eq_true rfl, Nat.le_of_ble_eq_true rfl⟩ ?_
  rintro v G9 ⟨rfl, rfl⟩
  refine zz_istore_n (pc := 10) C dX2_fork_10 (Nat.le_of_ble_eq_true rfl) ?_
  refine zz_aload_n (pc := 11) C dX2_fork_11 rfl ?_
  refine zz_callV (pc := 12) C (c_X1_condition l D hGa) gX2_fork_X1_condition rfl 0 (by decide +kernel) ⟨Nat.le_of_ble_eq_true rfl, Nat.le_of_ble_eq_true rfl⟩ hGa (ci := 1) rfl rfl rfl dX2_fork_12 rfl (Nat.le_of_ble_eq_true rfl) rfl ⟨Nat.le_of_ble_eq_true rfl, Nat.le_of_ble_eq_true rfl⟩ ?_
  rintro v G9 ⟨rfl, rfl⟩
  refine zz_if_ne (pc := 15) C (tgt := 23) dX2_fork_15 (by decide) (fun hc15 => ?_) (fun hc15 => ?_)
  · exact zzx_throw (pc := 23) (cls := "java/lang/IllegalStateException") (text := "not running, or no pid is free") (names := ["java/lang/RuntimeException", "java/lang/Exception"]) C hnx h8 hl rfl (Or.inr ⟨zE2_2 (fun z => z hth) (Or.inl (fun z => hc15 ((zCond_0 hPF).mpr z))), rfl⟩) (by decide) (by decide) (by decide) kc_X2_fork_43 ki_X2_fork_43 ka_X2_fork_43 kb_X2_fork_43 kg_X2_fork_43 dX2_fork_23 dX2_fork_26 dX2_fork_27 dX2_fork_29 dX2_fork_32 rfl (by decide) (by decide) (Nat.le_of_ble_eq_true rfl) (Nat.le_of_ble_eq_true rfl)
  · refine zz_iload_n (pc := 18) C dX2_fork_18 rfl ?_
    refine zz_iconst (pc := 19) C (v := -1) (by decide) dX2_fork_19 ?_
    refine zz_icmp_ne (pc := 20) C (tgt := 33) dX2_fork_20 (by decide) (fun hc20 => ?_) (fun hc20 => ?_)
    · obtain ⟨f9, hf9, hf1, hf2, hf3⟩ := zFree_at hc20
      refine zz_new (pc := 33) C 1 inn_X2_fork_X1 tyX1 tyX1_ok (by decide +kernel) (by decide +kernel) (by decide +kernel) (ci := 1) rfl zDef1 (Nat.le_of_ble_eq_true rfl) (Nat.le_of_ble_eq_true rfl) dX2_fork_33 (fun a9 ha9 _ => ?_)
      refine zz_dup (pc := 36) C dX2_fork_36 rfl ?_
      refine zz_iload_n (pc := 37) C dX2_fork_37 rfl ?_
      rw [hf9]
      refine zz_callI (pc := 38) C (c_X1_init l D (a := a9) (t := 1) (x := nI f9) zU_self) gX2_fork_X1_init rfl 1 (by decide +kernel) (by decide +kernel) (by decide +kernel) rfl (by decide +kernel) ⟨Nat.le_of_ble_eq_true rfl, Nat.le_of_ble_eq_true rfl⟩ rfl dX2_fork_38 rfl (Nat.le_of_ble_eq_true rfl) rfl ⟨Nat.le_of_ble_eq_true rfl, Nat.le_of_ble_eq_true rfl⟩ ?_
      rintro v G9 ⟨rfl, rfl⟩
      rw [zU_zU]
      refine zz_astore (pc := 41) C dX2_fork_41 (Nat.le_of_ble_eq_true rfl) ?_
      refine zz_aload (pc := 43) C dX2_fork_43 rfl ?_
      refine zz_aload_n (pc := 45) C dX2_fork_45 rfl ?_
      have nb : A (pn x9) ≠ a9 := zNe hGa ha9
      refine zz_callV (pc := 46) C (c_X1_inherit l D (a := a9) (b := A (pn x9)) zU_self ((zU_ne nb).trans hGa) nb) gX2_fork_X1_inherit rfl 1 (by decide +kernel) ⟨Nat.le_of_ble_eq_true rfl, Nat.le_of_ble_eq_true rfl⟩ zU_self (ci := 1) rfl rfl rfl dX2_fork_46 rfl (Nat.le_of_ble_eq_true rfl) rfl ⟨Nat.le_of_ble_eq_true rfl, Nat.le_of_ble_eq_true rfl⟩ ?_
      rintro v G9 ⟨rfl, rfl⟩
      rw [zU_zU]
      refine zz_aload_n (pc := 49) C dX2_fork_49 rfl ?_
      refine zz_get (pc := 50) C in_X2_fork_X2 (ci := 2) rfl 0 (by decide) (fl_X2_fork_11) rfl dX2_fork_50 ((zU_ne (zNe hC.x ha9)).trans hC.x) rfl ?_
      refine zz_iload_n (pc := 53) C dX2_fork_53 rfl ?_
      refine zz_aload (pc := 54) C dX2_fork_54 rfl ?_
      refine zz_aast (pc := 56) C (r := (RX1, TX1, 20)) dX2_fork_56 (n := 41) (f := zTA σ A) (t := 1) ((zU_ne (zNe hC.tbl ha9)).trans hC.tbl) (v := a9) (tv := 1) (ci := 1) (vs := zPr (.ref (A (pn x9))) (zInhF (zNewF (nI f9)) f)) zU_self rfl (vp_in_nI (n := f9) (N := 41) hf2 (by decide)) ?_
      have hC2 := hC.fork hW ha9 hf2 hf3.1 hx1 hx3 hth.2.2 hPF
      refine zz_iload_n (pc := 57) C dX2_fork_57 rfl ?_
      exact zzx_ret (zz_ireturn (pc := 58) C dX2_fork_58 rfl (Nat.le_of_ble_eq_true rfl) (Nat.le_of_ble_eq_true rfl) ⟨zE2_0 (fun z => z hth) (fun z => z.elim (fun u => u ((zCond_0 hPF).mp (Classical.not_not.mp hc15))) (fun u => hc20 (hf9.trans u))), rfl, zAt A f9 a9, by have e8 : pn (nI f9) = f9 := nI_clamp (by omega); have e9 : (nI f9).toNatClampNeg = f9 := nI_clamp (by omega); first | (rw [e8, e9]; exact hC2) | (rw [e8]; exact hC2) | (rw [e9]; exact hC2)⟩)
    · exact zzx_throw (pc := 23) (cls := "java/lang/IllegalStateException") (text := "not running, or no pid is free") (names := ["java/lang/RuntimeException", "java/lang/Exception"]) C hnx h8 hl rfl (Or.inr ⟨zE2_2 (fun z => z hth) (Or.inr (Classical.not_not.mp hc20)), rfl⟩) (by decide) (by decide) (by decide) kc_X2_fork_43 ki_X2_fork_43 ka_X2_fork_43 kb_X2_fork_43 kg_X2_fork_43 dX2_fork_23 dX2_fork_26 dX2_fork_27 dX2_fork_29 dX2_fork_32 rfl (by decide) (by decide) (Nat.le_of_ble_eq_true rfl) (Nat.le_of_ble_eq_true rfl)
