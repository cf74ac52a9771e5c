theorem zTA_ag {σ τ : zS} {A : Nat → Nat} (h : ∀ j, τ 0 j = σ 0 j) : zTA τ A = zTA σ A := by
  funext k
  unfold zTA
  rw [h]
theorem zPF_ag {σ τ : zS} {k : Nat} {f : Nat → Int32} (h : ∀ g, 2 ≤ g → g ≤ 20 → g ≠ 9 → τ g k = σ g k) (h9 : ∀ s, s < 9 → τ 9 (9 * k + s) = σ 9 (9 * k + s)) (hf : zPF σ k f) : zPF τ k f := by
  have e : ∀ g, 2 ≤ g → g ≤ 20 → g ≠ 9 → σ g k = τ g k := fun g a b c => (h g a b c).symm
  unfold zPF zRpt zVal at hf ⊢
  rw [e 2 (by decide) (by decide) (by decide), e 3 (by decide) (by decide) (by decide), e 13 (by decide) (by decide) (by decide), e 4 (by decide) (by decide) (by decide), e 5 (by decide) (by decide) (by decide), e 6 (by decide) (by decide) (by decide), e 7 (by decide) (by decide) (by decide), e 8 (by decide) (by decide) (by decide), e 14 (by decide) (by decide) (by decide), e 15 (by decide) (by decide) (by decide), e 16 (by decide) (by decide) (by decide), e 17 (by decide) (by decide) (by decide), e 10 (by decide) (by decide) (by decide), e 11 (by decide) (by decide) (by decide), e 12 (by decide) (by decide) (by decide), e 18 (by decide) (by decide) (by decide), e 19 (by decide) (by decide) (by decide), e 20 (by decide) (by decide) (by decide)] at hf
  obtain ⟨a0, a1, a2, a3, a4, a5, a6, a7, a8, a9, a10, a11⟩ := hf
  exact ⟨a0, a1, a2, a3, a4, a5, a6, a7, a8, a9, fun s hs => by rw [h9 s hs]; exact a10 s hs, a11⟩
/-- a step of one process's own numbers -/
def zOwn (σ τ : zS) (k : Nat) : Prop := (∀ j, τ 0 j = σ 0 j) ∧ (∀ j, τ 1 j = σ 1 j) ∧ (∀ g j, j ≠ k → 2 ≤ g → g ≤ 20 → g ≠ 9 → τ g j = σ g j) ∧ (∀ j s, j ≠ k → s < 9 → τ 9 (9 * j + s) = σ 9 (9 * j + s)) ∧ τ 21 0 = σ 21 0 ∧ τ 22 0 = σ 22 0
theorem zOwn.rf {σ : zS} {k : Nat} : zOwn σ σ k := ⟨fun _ => rfl, fun _ => rfl, fun _ _ _ _ _ _ => rfl, fun _ _ _ _ => rfl, rfl, rfl⟩
theorem zOwn.put {σ τ : zS} {k g : Nat} {v : Int32} (h : zOwn σ τ k) (hg : 2 ≤ g) (hg2 : g ≤ 20) (h9 : g ≠ 9) : zOwn σ (zu τ g k v) k := by
  obtain ⟨a0, a1, a2, a3, a4, a5⟩ := h
  refine ⟨fun j => by rw [zu_off (by omega)]; exact a0 j, fun j => by rw [zu_off (by omega)]; exact a1 j, fun f j hj h1 h2 h3 => ?_, fun j s hj hs => by rw [zu_off (fun z => h9 z.symm)]; exact a3 j s hj hs, by rw [zu_off (by omega)]; exact a4, by rw [zu_off (by omega)]; exact a5⟩
  rw [← a2 f j hj h1 h2 h3]
  unfold zu
  by_cases hf : f = g
  · simp [hf, hj]
  · simp [hf]
theorem zCl.at {B : zG} {x tb ev : Nat} {A : Nat → Nat} {σ : zS} {q : List zEv} {h m0 : Nat} {G : zG} (hC : zCl B x tb ev A σ q h m0 G) {k : Nat} (hk : k < 41) (h0 : σ 0 k ≠ 0) :
    ∃ f : Nat → Int32, G (A k) = some (1, .inr (1, zPr (zPar (zTA σ A) σ k) f)) ∧ zPF σ k f ∧ ∀ (τ : zS) (f' : Nat → Int32), zOwn σ τ k → zPF τ k f' → zCl B x tb ev A τ q h m0 (zU G (A k) (1, .inr (1, zPr (zPar (zTA σ A) σ k) f'))) := by
  obtain ⟨hm, ka, pa, F, fk, fp, ck, cp, hB⟩ := hC
  obtain ⟨_, g1, g2⟩ := hB.th hk (zTA_y h0)
  refine ⟨F k, g1, g2, fun τ f' ho hf => ⟨hm, ka, pa, (fun j => if j = k then f' else F j), fk, fp, ck, cp, ?_⟩⟩
  obtain ⟨a0, a1, a2, a3, a4, a5⟩ := ho
  have e : zTA τ A = zTA σ A := zTA_ag a0
  rw [e]
  refine zCls_proc hB hk h0 (zTA_y h0) a0 (fun j _ _ => a1 j) ?_ ⟨a4, a5⟩ (fun j f hj hne hz => zPF_ag (fun g b1 b2 b3 => a2 g j hne b1 b2 b3) (fun s hs => a3 j s hne hs) hz) hf
  unfold zPar
  rw [a1]
theorem zCl.ev {B : zG} {x tb ev : Nat} {A : Nat → Nat} {σ : zS} {q : List zEv} {h m0 : Nat} {G : zG} (hC : zCl B x tb ev A σ q h m0 G) : ∃ fs : List Value, G ev = some (1, .inr (0, fs)) := by
  obtain ⟨hm, ka, pa, F, fk, fp, ck, cp, hB⟩ := hC
  exact ⟨_, hB.2.2.2.1.1⟩
theorem zCl.x {B : zG} {x tb ev : Nat} {A : Nat → Nat} {σ : zS} {q : List zEv} {h m0 : Nat} {G : zG} (hC : zCl B x tb ev A σ q h m0 G) : G x = some (1, .inr (2, [.ref tb, .ref ev, .int (σ 21 0), .int (σ 22 0)])) := by
  obtain ⟨hm, ka, pa, F, fk, fp, ck, cp, hB⟩ := hC
  exact hB.2.1
theorem zPF_stop {σ : zS} {k s : Nat} {f : Nat → Int32} (hf : zPF σ k f) (h4 : σ 4 k = 0) : zPF (zu (zu (zu σ 5 k 1) 16 k (nI s)) 17 k 1) k (upd (upd (upd f 6 1) 10 2) 11 (nI s)) := by
  obtain ⟨a0, a2, a3, a4, a5, a6, a7, a8, a10, a11, a12, a13, a14, a15, a16, a17, a18, a19⟩ := hf
  refine ⟨a0, a2, a3, a4, a5, ?_, a7, a8, ?_, ?_, a12, a13, a14, a15, a16, a17, a18, a19⟩
  · simp [zu, upd]
  · simp [zu, upd, zRpt, h4]
  · intro _
    simp [zu, upd, zVal, h4]
theorem fl_X2_stop_191 : Cond.fieldLink RX2 191 "Signalpost$Proc" "stopped" "Z" ∈ wsX2_stop := by decide +kernel
theorem fl_X2_stop_247 : Cond.fieldLink RX2 247 "Signalpost$Proc" "report" "I" ∈ wsX2_stop := by decide +kernel
theorem fl_X2_stop_250 : Cond.fieldLink RX2 250 "Signalpost$Proc" "value" "I" ∈ wsX2_stop := by decide +kernel
theorem fl_X2_stop_18 : Cond.fieldLink RX2 18 "Signalpost" "events" "LSignalpost$EventQueue;" ∈ wsX2_stop := by decide +kernel
theorem fl_X2_stop_151 : Cond.fieldLink RX2 151 "Signalpost$Proc" "pid" "I" ∈ wsX2_stop := by decide +kernel
theorem in_X2_stop_X1 : ∀ w ∈ u_ws RX1 TX1 20, w ∈ wsX2_stop := by decide +kernel
theorem in_X2_stop_X2 : ∀ w ∈ u_ws RX2 TX2 4, w ∈ wsX2_stop := by decide +kernel
set_option maxHeartbeats 4000000 in
set_option maxRecDepth 100000 in
theorem c_X2_stop (l : Launch) (D : va_G) {B G : zG} {x tb ev : Nat} {A : Nat → Nat} {σ : zS} {q : List zEv} {h m0 : Nat} {k s9 : Nat} (hC : zCl B x tb ev A σ q h m0 G) (hk : k < 41) (h0 : σ 0 k ≠ 0) (h4 : σ 4 k = 0) (h5 : σ 5 k = 0) (ht : h + q.length + 1 ≤ 16384) : zMet D l yX2_stop wsX2_stop (zRmA 4 104 m0 (h + q.length + 1)) [.ref x, .ref (A k), .int (nI s9)] G (fun v G9 => v = none ∧ zCl B x tb ev A (zStop (σ, q) k s9).1 (q ++ [(10, k)]) h (max m0 (h + q.length + 1)) G9) := by
  refine zMet_of (cc := cX2_stop) (maxL := 3) (ret := none) (by decide) rfl (Nat.le_of_ble_eq_true rfl) ?_
  intro p e s m args below meth c C hmn
  obtain ⟨f, hGa, hPF, hup⟩ := hC.at hk h0
  refine zz_aload_n (pc := 0) C dX2_stop_0 rfl ?_
  refine zz_get (pc := 1) C in_X2_stop_X1 (ci := 1) rfl 6 (by decide) (fl_X2_stop_191) rfl dX2_stop_1 hGa rfl ?_
  refine zz_if_ne (pc := 4) C (tgt := 35) dX2_stop_4 (by decide) (fun hc4 => ?_) (fun hc4 => ?_)
  · exact absurd (show f 6 ≠ 0 from hc4) (fun z => z (hPF.2.2.2.2.2.1.trans h5))
  · refine zV.eqG (zU_id hGa).symm ?_
    refine zz_aload_n (pc := 7) C dX2_stop_7 rfl ?_
    refine zz_iconst (pc := 8) C (v := 1) (by decide) dX2_stop_8 ?_
    refine zz_pput (pc := 9) C in_X2_stop_X1 6 (by decide) (by decide) (by decide) fl_X2_stop_191 dX2_stop_9 rfl rfl ?_
    refine zz_aload_n (pc := 12) C dX2_stop_12 rfl ?_
    refine zz_iconst (pc := 13) C (v := 2) (by decide) dX2_stop_13 ?_
    refine zz_pput (pc := 14) C in_X2_stop_X1 10 (by decide) (by decide) (by decide) fl_X2_stop_247 dX2_stop_14 rfl rfl ?_
    refine zz_aload_n (pc := 17) C dX2_stop_17 rfl ?_
    refine zz_iload_n (pc := 18) C dX2_stop_18 rfl ?_
    refine zz_pput (pc := 19) C in_X2_stop_X1 11 (by decide) (by decide) (by decide) fl_X2_stop_250 dX2_stop_19 rfl rfl ?_
    have hC2 := hup _ _ (((zOwn.rf.put (g := 5) (v := 1) (by decide) (by decide) (by decide)).put (g := 16) (v := nI s9) (by decide) (by decide) (by decide)).put (g := 17) (v := 1) (by decide) (by decide) (by decide)) (zPF_stop hPF h4)
    obtain ⟨fe, hE⟩ := hC2.ev
    refine zz_aload_n (pc := 22) C dX2_stop_22 rfl ?_
    refine zz_get (pc := 23) C in_X2_stop_X2 (ci := 2) rfl 1 (by decide) (fl_X2_stop_18) rfl dX2_stop_23 hC2.x rfl ?_
    refine zz_bipush (pc := 26) C (v := 10) (by decide) dX2_stop_26 ?_
    refine zz_aload_n (pc := 28) C dX2_stop_28 rfl ?_
    refine zz_get (pc := 29) C in_X2_stop_X1 (ci := 1) rfl 0 (by decide) (fl_X2_stop_151) rfl dX2_stop_29 zU_self rfl ?_
    refine zz_callV (pc := 32) C (c_clApp l D (e9 := (10, k)) hC2 ht rfl hPF.1) gX2_stop_X0_append rfl 2 (by decide +kernel) ⟨Nat.le_of_ble_eq_true rfl, Nat.le_of_ble_eq_true rfl⟩ hE (ci := 0) rfl rfl rfl dX2_stop_32 rfl (Nat.le_of_ble_eq_true rfl) rfl ⟨by show 0 + (zK _ - zK _) ≤ zK _ - zK _; omega, by show 0 + 4 * (zK _ - zK _) ≤ 4 * (zK _ - zK _); omega⟩ ?_
    rintro v G9 ⟨rfl, hC3⟩
    exact zz_return (pc := 35) C dX2_stop_35 (by show 0 + (zK _ - zK _) ≤ zK _ - zK _; omega) (by show 0 + 4 * (zK _ - zK _) ≤ 4 * (zK _ - zK _); omega) ⟨rfl, hC3⟩
