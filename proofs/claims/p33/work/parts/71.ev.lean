/-! each event of a run keeps what the law asks -/
abbrev zOb (σ : zS) (p n : Nat) : Prop := σ 4 p = 0 → σ 5 p = 0 → ∀ s, s < n → zbit (zOpen σ p) s = false
theorem zPp_clr {x : Int32} {s : Nat} (hs : s < 32) (h : zPp x) : zPp (zClr x s) := by
  obtain ⟨a, b, c⟩ := h
  refine ⟨?_, ?_, fun z => c ?_⟩
  · rw [zbit_clr hs (by decide), a]; rfl
  · rw [zbit_clr hs (by decide), b]; rfl
  · rw [zbit_clr hs (by decide), zbit_clr hs (by decide), Bool.and_eq_true, Bool.and_eq_true] at z
    exact ⟨z.1.1, z.2.1⟩
theorem zHow_s {s : Nat} (hs : s < 9) : zHow 1 (nI s) := by
  have : ∀ t : Fin 9, 0 ≤ nI t.val ∧ nI t.val < 9 := by decide +kernel
  exact Or.inr ⟨rfl, this ⟨s, hs⟩⟩
theorem zIv.dstep {p s : Nat} {σ : zS} {q : List zEv} (h : zIv p σ q) (hp : p ≠ 0 ∧ p ≠ 1) (h0 : σ 0 p ≠ 0) (hs : s < 9) (hb : zOb σ p s) : zIv p (zDstep p (σ, q) s).1 (zDstep p (σ, q) s).2 ∧ zOb (zDstep p (σ, q) s).1 p (s + 1) := by
  by_cases hc : σ 4 p = 0 ∧ σ 5 p = 0 ∧ zOpen σ p &&& zSh s ≠ 0
  · rw [zDstep_yes (x := (σ, q)) hc]
    have hbit : zbit (zOpen σ p) s = true := (zbit_shne (by omega)).mp hc.2.2
    rw [zopen_bit (by omega), Bool.and_eq_true] at hbit
    have h1 : zIv p (zu σ 11 p (zClr (σ 11 p) s)) q := h.p11 hp (zClr_511 (by omega) (h.wf.2.2.2.2.2.2.1 p)) (zPp_clr (by omega) (h.pk h0).2.1) hc.1 (fun z => absurd hc.2.1 z)
    have e11 : zu σ 11 p (zClr (σ 11 p) s) 11 p = zClr (σ 11 p) s := zu_self
    have hob : ∀ t, t < s + 1 → zbit (zOpen (zu σ 11 p (zClr (σ 11 p) s)) p) t = false := fun t ht => by
      rw [zopen_bit (by omega), e11, zbit_clr (by omega) (by omega)]
      by_cases hts : t = s
      · simp [hts]
      · have h9 := hb hc.1 hc.2.1 t (by omega)
        rw [zopen_bit (by omega)] at h9
        show ((zbit (σ 11 p) t && !decide (t = s)) && !zbit (σ 10 p) t) = false
        simp [hts, h9]
    show zIv p (zEff (zu σ 11 p (zClr (σ 11 p) s), q) p s).1 (zEff (zu σ 11 p (zClr (σ 11 p) s), q) p s).2 ∧ zOb (zEff (zu σ 11 p (zClr (σ 11 p) s), q) p s).1 p (s + 1)
    generalize hσ1 : zu σ 11 p (zClr (σ 11 p) s) = σ1 at h1 hob e11
    have h01 : σ1 0 p ≠ 0 := by rw [← hσ1]; exact h0
    have h41 : σ1 4 p = 0 := by rw [← hσ1]; exact hc.1
    by_cases a2 : zAct σ1 p s = 2
    · rw [zEff_c (x := (σ1, q)) a2]
      refine ⟨h1.catch hp, fun _ _ t ht => ?_⟩
      have := hob t ht
      show zbit (zOpen (zCatch σ1 p) p) t = false
      unfold zOpen at this ⊢
      rw [zCatch_off (by decide), zCatch_off (by decide)]
      exact this
    by_cases a6 : zAct σ1 p s = 0 ∧ s = 6
    · by_cases ho : zOrph σ1 (σ1 2 p)
      · rw [zEff_o (x := (σ1, q)) a2 a6 ho]
        exact ⟨h1, fun _ _ => hob⟩
      · rw [zEff_s (x := (σ1, q)) a2 a6 ho]
        refine ⟨h1.stop hp h01 h41 ?_ (by decide), fun _ z5 => ?_⟩
        · rw [e11, zbit_clr (by omega) (by decide)]
          have h67 := (h.pk h0).2.1.2.2
          cases h7 : zbit (σ 11 p) 7 with
          | false => rfl
          | true => exact absurd ⟨by rw [← a6.2]; exact hbit.1, h7⟩ h67
        · rw [zStop_5] at z5; exact absurd z5 (by decide)
    by_cases a0 : zAct σ1 p s = 0
    · have h6 : s ≠ 6 := fun z => a6 ⟨a0, z⟩
      rw [zEff_t (x := (σ1, q)) a0 h6]
      refine ⟨(h1.term hp h01 (zHow_s hs)).weak, fun z4 => ?_⟩
      have z5 : zT3 σ1 p 1 (nI s) 4 p = 0 := z4
      rw [zT3_4] at z5
      exact absurd z5 (by decide)
    · rw [zEff_i (x := (σ1, q)) a2 a0]
      exact ⟨h1, fun _ _ => hob⟩
  · rw [zDstep_no (x := (σ, q)) hc]
    refine ⟨h, fun h4 h5 t ht => ?_⟩
    by_cases hts : t = s
    · cases hx : zbit (zOpen σ p) t with
      | false => rfl
      | true => exact absurd ⟨h4, h5, by rw [hts] at hx; exact (zbit_shne (by omega)).mpr hx⟩ hc
    · exact hb h4 h5 t (by omega)
theorem zIv.dfold {p : Nat} {σ : zS} {q : List zEv} (h : zIv p σ q) (hp : p ≠ 0 ∧ p ≠ 1) (h0 : σ 0 p ≠ 0) : ∀ {n : Nat}, n ≤ 9 → zIv p (zDfold p (σ, q) n).1 (zDfold p (σ, q) n).2 ∧ zOb (zDfold p (σ, q) n).1 p n
  | 0, _ => ⟨h, fun _ _ s hs => absurd hs (by omega)⟩
  | n + 1, hn => by
    have ih := zIv.dfold h hp h0 (n := n) (by omega)
    rw [zDfold_succ]
    have h9 : (zDfold p (σ, q) n).1 0 p ≠ 0 := by rw [zDfold_0f]; exact h0
    exact ih.1.dstep hp h9 (by omega) ih.2
theorem zOpen_0 {σ : zS} {p : Nat} (h : σ 11 p &&& 511 = σ 11 p) (hb : ∀ s, s < 9 → zbit (zOpen σ p) s = false) : zOpen σ p = 0 := by
  apply zbit_ext
  intro t ht
  rw [zbit_0]
  by_cases h9 : t < 9
  · exact hb t h9
  · rw [zopen_bit ht]
    cases hx : zbit (σ 11 p) t with
    | false => rfl
    | true => exact absurd (zbit_9 h ht hx) h9
theorem zIv.del {p : Nat} {σ : zS} {q : List zEv} (h : zIv p σ q) (hp : p ≠ 0 ∧ p ≠ 1) (h0 : σ 0 p ≠ 0) : zIv 0 (zDel (σ, q) p).1 (zDel (σ, q) p).2 := by
  have d := h.dfold hp h0 (Nat.le_refl 9)
  have h9 : (zDfold p (σ, q) 9).1 0 p ≠ 0 := by rw [zDfold_0f]; exact h0
  unfold zDel
  generalize zDfold p (σ, q) 9 = y at d h9
  show zIv 0 (zCheck y.1 p) y.2
  exact d.1.check hp h9 (fun h4 h5 => zOpen_0 (d.1.wf.2.2.2.2.2.2.1 p) (d.2 h4 h5))
theorem zIv.cont {p s : Nat} {σ : zS} {q : List zEv} (h : zIv p σ q) (hp : p ≠ 0 ∧ p ≠ 1) (h4 : σ 4 p = 0) : zIv p (zCont σ p s) q := by
  have hw : zWf (zCont σ p s) := h.wf.cont
  unfold zCont at hw ⊢
  split
  · rename_i hs
    rw [if_pos hs] at hw
    refine h.own hp hw rfl (fun f k _ hk => by rw [zu_k hk, zu_k hk, zu_k hk]) rfl rfl rfl rfl rfl (fun k0 => ?_)
    obtain ⟨b1, b2, b3, b4, b5⟩ := h.pk k0
    have e11 : zu (zu (zu σ 11 p (zClr (σ 11 p) 6)) 17 p (zb (σ 17 p ≠ 0 ∧ σ 5 p = 0))) 5 p 0 11 p = zClr (σ 11 p) 6 := by simp [zu]
    have e5 : zu (zu (zu σ 11 p (zClr (σ 11 p) 6)) 17 p (zb (σ 17 p ≠ 0 ∧ σ 5 p = 0))) 5 p 0 5 p = 0 := zu_self
    refine ⟨fun q4 => absurd h4 q4, ?_, fun q5 => absurd e5 q5, b4, b5⟩
    rw [e11]
    exact zPp_clr (by decide) b2
  · rename_i hs
    rw [if_neg hs] at hw
    split
    · rename_i hs2
      rw [if_pos hs2] at hw
      refine h.own hp hw rfl (fun f k _ hk => zu_k hk) rfl rfl rfl rfl rfl (fun k0 => ?_)
      obtain ⟨b1, b2, b3, b4, b5⟩ := h.pk k0
      have e11 : zu σ 11 p (zClr (σ 11 p) 7) 11 p = zClr (σ 11 p) 7 := zu_self
      refine ⟨fun q4 => absurd h4 q4, ?_, fun q5 => ?_, b4, b5⟩
      · rw [e11]; exact zPp_clr (by decide) b2
      · rw [e11]
        refine ⟨?_, (b3 q5).2⟩
        rw [zbit_clr (by decide) (by decide)]
        simp
    · exact h
theorem zIv.comes {p s : Nat} {σ : zS} {q : List zEv} (h : zIv 0 σ q) (hs : s < 9) : zIv 0 (zComes (σ, q) p s).1 (zComes (σ, q) p s).2 := by
  by_cases hn : σ 0 p = 0 ∨ σ 4 p ≠ 0 ∨ p = 1
  · rw [zComes_no (x := (σ, q)) hn]; exact h
  · rw [zComes_yes (x := (σ, q)) hn]
    have h0 : σ 0 p ≠ 0 := fun z => hn (Or.inl z)
    have h4 : σ 4 p = 0 := Classical.not_not.mp (fun z => hn (Or.inr (Or.inl z)))
    have hp : p ≠ 0 ∧ p ≠ 1 := ⟨fun z => h0 (by rw [z]; exact h.wf.z), fun z => hn (Or.inr (Or.inr z))⟩
    have hc : zIv p (zCont σ p s) q := h.weak.cont hp h4
    have c0 : zCont σ p s 0 p ≠ 0 := by rw [zCont_off (by decide)]; exact h0
    have c4 : zCont σ p s 4 p = 0 := by rw [zCont_off (by decide)]; exact h4
    have c6 : s = 7 → zbit (zCont σ p s 11 p) 6 = false ∧ zCont σ p s 5 p = 0 := fun z => by
      rw [zCont_7 z]
      refine ⟨?_, zu_self⟩
      have e11 : zu (zu (zu σ 11 p (zClr (σ 11 p) 6)) 17 p (zb (σ 17 p ≠ 0 ∧ σ 5 p = 0))) 5 p 0 11 p = zClr (σ 11 p) 6 := by simp [zu]
      rw [e11, zbit_clr (by decide) (by decide)]
      simp
    have c7 : s = 5 ∨ s = 6 → zbit (zCont σ p s 11 p) 7 = false := fun z => by
      rw [zCont_56 (by omega) z, zu_self, zbit_clr (by decide) (by decide)]
      simp
    show zIv 0 (zDel (zTake (zCont σ p s, q) p s) p).1 (zDel (zTake (zCont σ p s, q) p s) p).2
    generalize zCont σ p s = τ at hc c0 c4 c6 c7
    have hd : ∀ y : zS × List zEv, zTake (τ, q) p s = y → zIv p y.1 y.2 → y.1 0 p ≠ 0 → zIv 0 (zDel (zTake (τ, q) p s) p).1 (zDel (zTake (τ, q) p s) p).2 := fun y e hy y0 => by
      rw [e]
      exact zIv.del (σ := y.1) (q := y.2) hy hp y0
    by_cases s2 : s = 2
    · refine hd _ (zTake_2 s2) (zIv.weak (hc.term hp c0 (zHow_s (s := 2) (by decide)))) ?_
      show zT3 τ p 1 2 0 p ≠ 0
      rw [zT3_0]; exact c0
    by_cases s5 : s = 5
    · by_cases t5 : τ 5 p = 0
      · exact hd _ (zTake_5s (x := (τ, q)) s5 t5) (hc.stop hp c0 c4 (c7 (Or.inl s5)) (by decide)) c0
      · exact hd _ (zTake_5 (x := (τ, q)) s5 t5) hc c0
    by_cases hh : zHeed τ p s
    · refine hd _ (zTake_p (x := (τ, q)) s2 s5 hh) (hc.p11 hp (zOr_511 hs (hc.wf.2.2.2.2.2.2.1 p)) ?_ c4 (fun z5 => ?_)) c0
      · obtain ⟨a, b, c⟩ := (hc.pk c0).2.1
        refine ⟨?_, ?_, ?_⟩
        · rw [zbit_or, a, zbit_sh (by omega) (by decide)]; simp; omega
        · rw [zbit_or, b, zbit_sh (by omega) (by decide)]; simp; omega
        · rw [zbit_or, zbit_or, zbit_sh (by omega) (by decide), zbit_sh (by omega) (by decide)]
          by_cases z6 : s = 6
          · have := c7 (Or.inr z6)
            simp [z6, this]
          · by_cases z7 : s = 7
            · have := (c6 z7).1
              simp [z7, this]
            · have e6 : ¬ 6 = s := fun z => z6 z.symm
              have e7 : ¬ 7 = s := fun z => z7 z.symm
              simp only [e6, e7, decide_false, Bool.or_false]
              exact c
      · have s7 : s ≠ 7 := fun z => z5 (c6 z).2
        rw [zbit_or, ((hc.pk c0).2.2.1 z5).1, zbit_sh (by omega) (by decide)]
        simp; omega
    · exact hd _ (zTake_n (x := (τ, q)) s2 s5 hh) hc c0
theorem zIv.tell {j : Nat} {σ : zS} {q : List zEv} (h : zIv j σ q) (h0 : σ 0 j ≠ 0) (hb : σ 4 j = 0 → σ 5 j = 0 → zOpen σ j = 0) : zIv 0 (zTell (σ, q) j).1 (zTell (σ, q) j).2 := by
  by_cases hj : j = 1
  · rw [zTell_1 (x := (σ, q)) hj]
    exact h.full (fun _ => hb) (fun _ h6 => absurd (by rw [hj]; exact h.wf.i.2) h6)
  · rw [zTell_n (x := (σ, q)) hj]
    exact (h.check ⟨fun z => h0 (by rw [z]; exact h.wf.z), hj⟩ h0 hb).app
theorem zIv.pop9 {e p : Nat} {σ : zS} {q : List zEv} (h : zIv e σ ((9, p) :: q)) (hp : σ 0 p ≠ 0 → σ 4 p ≠ 0 → σ 1 p ≠ 1) : zIv e σ q := by
  obtain ⟨a, b, c, d, r, s⟩ := h
  refine ⟨a, b, c, d, fun k k0 k4 k1 => ?_, s⟩
  rcases List.mem_cons.mp (r k k0 k4 k1) with z | z
  · have hk : k = p := congrArg (fun e : zEv => e.2) z
    rw [hk] at k0 k4 k1
    exact absurd k1 (hp k0 k4)
  · exact z
theorem zIv.op {σ : zS} {q : List zEv} (h : zIv 0 σ q) {k : Nat} (k0 : σ 0 k ≠ 0) (k4 : σ 4 k = 0) (k5 : σ 5 k = 0) : zOpen σ k = 0 := h.2.2.1 k k0 k4 k5 (fun z => k0 (by rw [z]; exact h.wf.z))
theorem zIv.over {p : Nat} {σ : zS} {q : List zEv} (h : zIv 0 σ ((9, p) :: q)) (hz : σ 0 p ≠ 0 → σ 4 p ≠ 0) : zIv 0 (zOver (σ, q) p).1 (zOver (σ, q) p).2 := by
  by_cases h0 : σ 0 p = 0
  · rw [zOver_no (x := (σ, q)) h0]
    exact h.pop9 (fun z => absurd h0 z)
  · have h4 := hz h0
    obtain ⟨j, j1, j2, j3, j4, j5, j6⟩ := h.wf.par h0 (h.wf.z1 h4)
    have hpn : pn (σ 1 p) = j := by rw [j1]; exact nI_clamp (by omega)
    rw [zOver_yes (x := (σ, q)) h0 hpn]
    have hu : ∀ m, σ 1 p = nI m → m < 41 → m ≠ 1 → m = j := fun m hm m41 _ => (nI_eq (by omega) (by omega)).mp (hm.symm.trans j1)
    show zIv 0 (zTell (if j = 1 ∨ zAct σ j 4 = 1 then zu σ 0 p 0 else σ, q) j).1 (zTell (if j = 1 ∨ zAct σ j 4 = 1 then zu σ 0 p 0 else σ, q) j).2
    by_cases hr : j = 1 ∨ zAct σ j 4 = 1
    · rw [if_pos hr]
      have g := (h.gone h4 hu).pop9 (fun z => absurd zu_self z)
      exact g.tell (by rw [zu_k j4]; exact j5) (fun _ k5 => h.op j5 j6 k5)
    · rw [if_neg hr]
      have hj1 : j ≠ 1 := fun z => hr (Or.inl z)
      refine (h.pop9 (fun _ _ z => ?_)).weak.tell j5 (fun _ k5 => h.op j5 j6 k5)
      rw [j1] at z
      exact hj1 ((nI_eq (by omega) (by decide)).mp (z.trans (show (1 : Int32) = nI 1 from rfl)))
theorem zIv.stands {p : Nat} {σ : zS} {q : List zEv} (h : zIv 0 σ q) : zIv 0 (zStands (σ, q) p).1 (zStands (σ, q) p).2 := by
  by_cases hc : σ 0 p ≠ 0 ∧ σ 5 p ≠ 0
  · rw [zStands_yes (x := (σ, q)) hc]
    have h1 : p ≠ 1 := fun z => hc.2 (by rw [z]; exact h.wf.i.1)
    obtain ⟨j, j1, j2, j3, j4, j5, j6⟩ := h.wf.par hc.1 h1
    have hpn : pn (σ 1 p) = j := by rw [j1]; exact nI_clamp (by omega)
    show zIv 0 (zTell (σ, q) (pn (σ 1 p))).1 (zTell (σ, q) (pn (σ 1 p))).2
    rw [hpn]
    exact h.weak.tell j5 (fun _ k5 => h.op j5 j6 k5)
  · rw [zStands_no (x := (σ, q)) hc]; exact h
theorem zIv.event {e : zEv} {σ : zS} {q : List zEv} (h : zIv 0 σ (e :: q)) (he : zEvK σ e) : zIv 0 (zEvent (σ, q) e).1 (zEvent (σ, q) e).2 := by
  obtain ⟨s, p⟩ := e
  have hpop : s ≠ 9 → zIv 0 σ q := fun hs => h.more (fun k hk => by
    rcases List.mem_cons.mp hk with z | z
    · exact absurd (congrArg (fun e : zEv => e.1) z).symm hs
    · exact z)
  by_cases s9 : s = 9
  · subst s9
    rw [zEvent_9 (e := (9, p)) rfl]
    exact h.over (fun z => he.2 rfl z)
  by_cases s10 : s = 10
  · subst s10
    rw [zEvent_10 (e := (10, p)) rfl]
    exact (hpop (by decide)).stands
  · have hs : s < 9 := by have := he.1.1; have h2 : s ≤ 10 := this; omega
    rw [zEvent_s (e := (s, p)) hs]
    exact (hpop s9).comes hs
theorem zIv.go : ∀ {n : Nat} {σ : zS} {q : List zEv}, zIv 0 σ q → zGood σ q → zRun n σ q → zIv 0 (zGo n σ q) []
  | 0, _, [], h, _, _ => h
  | 0, _, _ :: _, _, _, hr => hr.elim
  | n + 1, _, [], h, _, _ => h
  | n + 1, _, _ :: _, h, hg, hr => zIv.go (n := n) (h.event (hg.2 _ List.mem_cons_self)) hg.event hr.2.2.2.2.2.2
/-! what a run does not undo -/
theorem zMo.go : ∀ {n : Nat} {σ : zS} {q : List zEv}, zGood σ q → zMo σ (zGo n σ q)
  | 0, _, _, _ => zMo.rf
  | n + 1, _, [], _ => zMo.rf
  | n + 1, _, _ :: _, h => (zSt.event (x := (_, _)) h.1 (h.2 _ List.mem_cons_self)).2.1.tr (zMo.go (n := n) h.event)
def zMj (σ τ : zS) : Prop := (∀ k, σ 1 k = 1 → τ 1 k = 1) ∧ (σ 21 0 = -1 → τ 21 0 = -1) ∧ τ 10 = σ 10
theorem zMj.rf {σ : zS} : zMj σ σ := ⟨fun _ h => h, fun h => h, rfl⟩
theorem zMj.tr {a b c : zS} (h1 : zMj a b) (h2 : zMj b c) : zMj a c := ⟨fun k h => h2.1 k (h1.1 k h), fun h => h2.2.1 (h1.2.1 h), h2.2.2.trans h1.2.2⟩
theorem zMj.of {σ τ : zS} (e1 : τ 1 = σ 1) (e21 : τ 21 = σ 21) (e10 : τ 10 = σ 10) : zMj σ τ := ⟨fun k h => by rw [e1]; exact h, fun h => by rw [e21]; exact h, e10⟩
theorem zMj.term {σ : zS} {p : Nat} {a b : Int32} (hp : p < 41) (h1 : p ≠ 1) : zMj σ (zT3 σ p a b) := by
  refine ⟨fun k hk => ?_, fun h => ?_, by rw [zT3_off (by decide), zT2_off (by decide)]⟩
  · rw [zT3_1]
    · exact hk
    · rw [hk]
      exact fun z => h1 ((nI_eq (by omega) (by decide)).mp (z.symm.trans (show (1 : Int32) = nI 1 from rfl)))
  · by_cases ht : zTm σ p
    · rw [zT3_if ht]; rfl
    · rw [zT3_no ht, zT2_off (by decide)]; exact h
theorem zMj.check {σ : zS} {p : Nat} : zMj σ (zCheck σ p) := zMj.of (zCheck_off (by decide)) (zCheck_off (by decide)) (zCheck_off (by decide))
theorem zMj.eff {x : zS × List zEv} {p s : Nat} (hp : p < 41) (h1 : p ≠ 1) : zMj x.1 (zEff x p s).1 := by
  rcases zEff_cases x p s with h | h | h | h <;> rw [h]
  · exact zMj.of (zCatch_off (by decide)) (zCatch_off (by decide)) (zCatch_off (by decide))
  · exact zMj.rf
  · exact zMj.of (zStop_off (by decide)) (zStop_off (by decide)) (zStop_off (by decide))
  · exact zMj.term hp h1
theorem zMj.dstep {x : zS × List zEv} {p s : Nat} (hp : p < 41) (h1 : p ≠ 1) : zMj x.1 (zDstep p x s).1 := by
  by_cases hc : x.1 4 p = 0 ∧ x.1 5 p = 0 ∧ zOpen x.1 p &&& zSh s ≠ 0
  · rw [zDstep_yes hc]
    exact (zMj.of (τ := zu x.1 11 p (zClr (x.1 11 p) s)) rfl rfl rfl).tr (zMj.eff (x := (zu x.1 11 p (zClr (x.1 11 p) s), x.2)) hp h1)
  · rw [zDstep_no hc]; exact zMj.rf
theorem zMj.dfold {x : zS × List zEv} {p : Nat} (hp : p < 41) (h1 : p ≠ 1) : ∀ {n : Nat}, zMj x.1 (zDfold p x n).1
  | 0 => zMj.rf
  | n + 1 => by rw [zDfold_succ]; exact (zMj.dfold hp h1 (n := n)).tr (zMj.dstep hp h1)
theorem zMj.del {x : zS × List zEv} {p : Nat} (hp : p < 41) (h1 : p ≠ 1) : zMj x.1 (zDel x p).1 := by
  have d := zMj.dfold (x := x) hp h1 (n := 9)
  unfold zDel
  generalize zDfold p x 9 = y at d
  exact d.tr (show zMj y.1 (zCheck y.1 p) from zMj.check)
theorem zMj.take {x : zS × List zEv} {p s : Nat} (hp : p < 41) (h1 : p ≠ 1) : zMj x.1 (zTake x p s).1 := by
  rcases zTake_cases x p s with h | h | h | h <;> rw [h]
  · exact zMj.term hp h1
  · exact zMj.of (zStop_off (by decide)) (zStop_off (by decide)) (zStop_off (by decide))
  · exact zMj.rf
  · exact zMj.of rfl rfl rfl
theorem zMj.comes {x : zS × List zEv} {p s : Nat} (hp : p < 41) : zMj x.1 (zComes x p s).1 := by
  by_cases hn : x.1 0 p = 0 ∨ x.1 4 p ≠ 0 ∨ p = 1
  · rw [zComes_no hn]; exact zMj.rf
  · rw [zComes_yes hn]
    have h1 : p ≠ 1 := fun z => hn (Or.inr (Or.inr z))
    have hc : zMj x.1 (zCont x.1 p s) := zMj.of (zCont_off (by decide)) (zCont_off (by decide)) (zCont_off (by decide))
    exact (hc.tr (zMj.take (x := (zCont x.1 p s, x.2)) hp h1)).tr (zMj.del hp h1)
theorem zMj.tell {x : zS × List zEv} {j : Nat} : zMj x.1 (zTell x j).1 := by
  by_cases hj : j = 1
  · rw [zTell_1 hj]; exact zMj.rf
  · rw [zTell_n hj]; exact zMj.check
theorem zMj.event {x : zS × List zEv} {e : zEv} (he : zEvOk e) : zMj x.1 (zEvent x e).1 := by
  by_cases h9 : e.1 = 9
  · rw [zEvent_9 h9]
    by_cases h0 : x.1 0 e.2 = 0
    · rw [zOver_no h0]; exact zMj.rf
    · rw [zOver_yes h0 rfl]
      refine zMj.tr ?_ (zMj.tell (x := (if pn (x.1 1 e.2) = 1 ∨ zAct x.1 (pn (x.1 1 e.2)) 4 = 1 then zu x.1 0 e.2 0 else x.1, x.2)))
      show zMj x.1 (if pn (x.1 1 e.2) = 1 ∨ zAct x.1 (pn (x.1 1 e.2)) 4 = 1 then zu x.1 0 e.2 0 else x.1)
      split
      · exact zMj.of rfl rfl rfl
      · exact zMj.rf
  by_cases h10 : e.1 = 10
  · rw [zEvent_10 h10]
    by_cases hc : x.1 0 e.2 ≠ 0 ∧ x.1 5 e.2 ≠ 0
    · rw [zStands_yes hc]; exact zMj.tell
    · rw [zStands_no hc]; exact zMj.rf
  · rw [zEvent_s (by have := he.1; omega)]
    exact zMj.comes he.2.2.1
theorem zMj.go : ∀ {n : Nat} {σ : zS} {q : List zEv}, zGood σ q → zMj σ (zGo n σ q)
  | 0, _, _, _ => zMj.rf
  | n + 1, _, [], _ => zMj.rf
  | n + 1, _, _ :: _, h => (zMj.event (x := (_, _)) (h.2 _ List.mem_cons_self).1).tr (zMj.go (n := n) h.event)
