/-! what the law asks of the numbers, kept by every step of a run of events -/
abbrev zPz (v4 v11 v14 v15 : Int32) : Prop := v4 ≠ 0 → v11 = 0 ∧ ((v14 = 0 ∧ 0 ≤ v15) ∨ (v14 = 1 ∧ 0 ≤ v15 ∧ v15 < 9))
abbrev zPp (v : Int32) : Prop := zbit v 2 = false ∧ zbit v 5 = false ∧ ¬ (zbit v 6 = true ∧ zbit v 7 = true)
abbrev zPst (v5 v11 v16 : Int32) : Prop := v5 ≠ 0 → zbit v11 7 = false ∧ 0 ≤ v16 ∧ v16 < 9
abbrev zPw (r c v : Int32) : Prop := (r = 0 ∧ 1 < c ∧ 0 ≤ v) ∨ ((r = 1 ∨ r = 2) ∧ 1 < c ∧ 0 ≤ v ∧ v < 9) ∨ ((r = -1 ∨ r = 3 ∨ r = 4) ∧ c = -1 ∧ v = -1)
abbrev zPma (m a2 a5 : Int32) : Prop := m &&& 475 = m ∧ a2 ≠ 2 ∧ a5 ≠ 2
def zPk (σ : zS) (k : Nat) : Prop := zPz (σ 4 k) (σ 11 k) (σ 14 k) (σ 15 k) ∧ zPp (σ 11 k) ∧ zPst (σ 5 k) (σ 11 k) (σ 16 k) ∧ zPw (σ 18 k) (σ 19 k) (σ 20 k) ∧ zPma (σ 10 k) (σ 9 (9 * k + 2)) (σ 9 (9 * k + 5))
abbrev zKids (σ : zS) (k : Nat) : Prop := ∃ j, j < 41 ∧ zKid σ k j
abbrev zTmI (σ : zS) : Prop := (σ 21 0 = -1 ∧ σ 22 0 = -1) ∨ ∃ t, σ 21 0 = nI t ∧ σ 0 t ≠ 0 ∧ σ 3 t = nI t ∧ σ 4 t = 0 ∧ 0 < σ 22 0
/-- what holds between events; process e may be in the midst of a delivery -/
def zIv (e : Nat) (σ : zS) (q : List zEv) : Prop :=
  zWf σ ∧ (∀ k, σ 0 k ≠ 0 → zPk σ k) ∧ (∀ k, σ 0 k ≠ 0 → σ 4 k = 0 → σ 5 k = 0 → k ≠ e → zOpen σ k = 0) ∧ (∀ k, σ 0 k ≠ 0 → σ 6 k ≠ 0 → σ 5 k = 0 → k ≠ e → zKids σ k) ∧
  (∀ k, σ 0 k ≠ 0 → σ 4 k ≠ 0 → σ 1 k = 1 → ((9, k) : zEv) ∈ q) ∧
  ((∀ j k, σ 0 j ≠ 0 → σ 0 k ≠ 0 → σ 2 j = σ 2 k → σ 3 j = σ 3 k) ∧ (∀ j k, σ 0 j ≠ 0 → σ 0 k ≠ 0 → σ 2 k = nI j → σ 3 k = σ 3 j) ∧ (∀ k, σ 0 k ≠ 0 → σ 3 k = nI k → σ 2 k = nI k)) ∧
  zTmI σ ∧ (σ 11 1 = 0 ∧ σ 12 1 = 0 ∧ σ 18 1 = -1)
theorem zIv.wf {e : Nat} {σ : zS} {q : List zEv} (h : zIv e σ q) : zWf σ := h.1
theorem zIv.pk {e : Nat} {σ : zS} {q : List zEv} (h : zIv e σ q) {k : Nat} (k0 : σ 0 k ≠ 0) : zPk σ k := h.2.1 k k0
theorem zIv.weak {e : Nat} {σ : zS} {q : List zEv} (h : zIv 0 σ q) : zIv e σ q := by
  obtain ⟨a, b, c, d, r⟩ := h
  exact ⟨a, b, fun k k0 k4 k5 _ => c k k0 k4 k5 (fun z => by rw [z] at k0; exact k0 a.z), fun k k0 k6 k5 _ => d k k0 k6 k5 (fun z => by rw [z] at k0; exact k0 a.z), r⟩
theorem zIv.more {e : Nat} {σ : zS} {q q' : List zEv} (h : zIv e σ q) (hq : ∀ k, ((9, k) : zEv) ∈ q → ((9, k) : zEv) ∈ q') : zIv e σ q' := by
  obtain ⟨a, b, c, d, r, s⟩ := h
  exact ⟨a, b, c, d, fun k k0 k4 k1 => hq k (r k k0 k4 k1), s⟩
theorem zIv.app {e : Nat} {σ : zS} {q q' : List zEv} (h : zIv e σ q) : zIv e σ (q ++ q') := h.more (fun _ hk => List.mem_append_left _ hk)
theorem zIv.full {p : Nat} {σ : zS} {q : List zEv} (h : zIv p σ q) (hb : σ 0 p ≠ 0 → σ 4 p = 0 → σ 5 p = 0 → zOpen σ p = 0) (hj : σ 0 p ≠ 0 → σ 6 p ≠ 0 → σ 5 p = 0 → zKids σ p) : zIv 0 σ q := by
  obtain ⟨a, b, c, d, r⟩ := h
  refine ⟨a, b, fun k k0 k4 k5 _ => ?_, fun k k0 k6 k5 _ => ?_, r⟩
  · by_cases hk : k = p
    · subst hk; exact hb k0 k4 k5
    · exact c k k0 k4 k5 hk
  · by_cases hk : k = p
    · subst hk; exact hj k0 k6 k5
    · exact d k k0 k6 k5 hk
/-- a step that changes what belongs to process p alone, but not who it is, its parent, its group, its session, whether it is a zombie -/
theorem zIv.own {p : Nat} {σ τ : zS} {q : List zEv} (h : zIv p σ q) (hp : p ≠ 0 ∧ p ≠ 1) (hw : zWf τ) (h9 : τ 9 = σ 9) (ho : ∀ f k, f ≠ 9 → k ≠ p → τ f k = σ f k) (f0 : τ 0 p = σ 0 p) (f1 : τ 1 p = σ 1 p) (f2 : τ 2 p = σ 2 p) (f3 : τ 3 p = σ 3 p) (f4 : τ 4 p = σ 4 p) (hpk : σ 0 p ≠ 0 → zPk τ p) : zIv p τ q := by
  have e : ∀ f, f ≠ 9 → τ f p = σ f p → τ f = σ f := fun f hf hfp => by
    funext k
    by_cases hk : k = p
    · rw [hk]; exact hfp
    · exact ho f k hf hk
  have e0 := e 0 (by decide) f0
  have e1 := e 1 (by decide) f1
  have e2 := e 2 (by decide) f2
  have e3 := e 3 (by decide) f3
  have e4 := e 4 (by decide) f4
  obtain ⟨a, b, c, d, r, g, t, i⟩ := h
  refine ⟨hw, fun k k0 => ?_, fun k k0 k4 k5 hk => ?_, fun k k0 k6 k5 hk => ?_, ?_, ?_, ?_, ?_⟩
  · rw [e0] at k0
    by_cases hk : k = p
    · subst hk; exact hpk k0
    · have := b k k0
      unfold zPk at this ⊢
      rw [h9, ho 4 k (by decide) hk, ho 11 k (by decide) hk, ho 14 k (by decide) hk, ho 15 k (by decide) hk, ho 5 k (by decide) hk, ho 16 k (by decide) hk, ho 18 k (by decide) hk, ho 19 k (by decide) hk, ho 20 k (by decide) hk, ho 10 k (by decide) hk]
      exact this
  · rw [e0] at k0
    rw [e4] at k4
    rw [ho 5 k (by decide) hk] at k5
    have := c k k0 k4 k5 hk
    unfold zOpen at this ⊢
    rw [ho 11 k (by decide) hk, ho 10 k (by decide) hk]
    exact this
  · rw [e0] at k0
    rw [ho 6 k (by decide) hk] at k6
    rw [ho 5 k (by decide) hk] at k5
    obtain ⟨j, j1, j2⟩ := d k k0 k6 k5 hk
    refine ⟨j, j1, ?_⟩
    show τ 0 j ≠ 0 ∧ τ 1 j = nI k ∧ (τ 7 k = -1 ∨ τ 7 k = nI j)
    rw [e0, e1, ho 7 k (by decide) hk]
    exact j2
  · rw [e0, e4, e1]; exact r
  · rw [e0, e2, e3]; exact g
  · have h0 : (0 : Nat) ≠ p := fun z => hp.1 z.symm
    unfold zTmI at t ⊢
    rw [ho 21 0 (by decide) h0, ho 22 0 (by decide) h0, e0, e3, e4]
    exact t
  · have h1 : (1 : Nat) ≠ p := fun z => hp.2 z.symm
    rw [ho 11 1 (by decide) h1, ho 12 1 (by decide) h1, ho 18 1 (by decide) h1]
    exact i
theorem zEnds_w {σ : zS} {p : Nat} {r c v : Int32} : zEnds σ p r c v 6 p = 0 ∧ zEnds σ p r c v 18 p = r ∧ zEnds σ p r c v 19 p = c ∧ zEnds σ p r c v 20 p = v := by simp [zEnds, zu]
theorem zEnds_k {σ : zS} {p k f : Nat} {r c v : Int32} (hk : k ≠ p) : zEnds σ p r c v f k = σ f k := by simp [zEnds, zu, hk]
theorem zu_k {σ : zS} {p k f g : Nat} {v : Int32} (hk : k ≠ p) : zu σ f p v g k = σ g k := by simp [zu, hk]
theorem zIv.ends {p : Nat} {σ : zS} {q : List zEv} (h : zIv p σ q) (hp : p ≠ 0 ∧ p ≠ 1) {r c v : Int32} (hw : zPw r c v) : zIv p (zEnds σ p r c v) q := by
  refine h.own hp h.wf.ends rfl (fun f k _ hk => zEnds_k hk) rfl rfl rfl rfl rfl (fun k0 => ?_)
  obtain ⟨b1, b2, b3, b4, b5⟩ := h.pk k0
  refine ⟨b1, b2, b3, ?_, b5⟩
  rw [zEnds_w.2.1, zEnds_w.2.2.1, zEnds_w.2.2.2]
  exact hw
theorem zIv.p12 {p : Nat} {σ : zS} {q : List zEv} (h : zIv p σ q) (hp : p ≠ 0 ∧ p ≠ 1) {v : Int32} : zIv p (zu σ 12 p v) q :=
  h.own hp h.wf.p12 rfl (fun f k _ hk => zu_k hk) rfl rfl rfl rfl rfl (fun k0 => h.pk k0)
theorem zIv.catch {p : Nat} {σ : zS} {q : List zEv} (h : zIv p σ q) (hp : p ≠ 0 ∧ p ≠ 1) : zIv p (zCatch σ p) q := by
  unfold zCatch
  split
  · exact (h.p12 hp).ends hp (Or.inr (Or.inr ⟨Or.inr (Or.inl rfl), rfl, rfl⟩))
  · exact h.p12 hp
theorem zIv.p11 {p : Nat} {σ : zS} {q : List zEv} (h : zIv p σ q) (hp : p ≠ 0 ∧ p ≠ 1) {v : Int32} (h5 : v &&& 511 = v) (hv : zPp v) (hz : σ 4 p = 0) (hs : σ 5 p ≠ 0 → zbit v 7 = false) : zIv p (zu σ 11 p v) q := by
  refine h.own hp (h.wf.p11 h5) rfl (fun f k _ hk => zu_k hk) rfl rfl rfl rfl rfl (fun k0 => ?_)
  obtain ⟨b1, b2, b3, b4, b5⟩ := h.pk k0
  have e : zu σ 11 p v 11 p = v := zu_self
  refine ⟨fun q4 => absurd hz q4, ?_, fun q5 => ?_, b4, b5⟩
  · rw [e]; exact hv
  · rw [e]; exact ⟨hs q5, (b3 q5).2⟩
theorem zIv.stop {p s : Nat} {σ : zS} {q : List zEv} (h : zIv p σ q) (hp : p ≠ 0 ∧ p ≠ 1) (h0 : σ 0 p ≠ 0) (h4 : σ 4 p = 0) (h7 : zbit (σ 11 p) 7 = false) (hs : s < 9) : zIv p (zStop (σ, q) p s).1 (zStop (σ, q) p s).2 := by
  show zIv p (zu (zu (zu σ 5 p 1) 16 p (nI s)) 17 p 1) (q ++ [(10, p)])
  refine zIv.app (h.own hp (zSt.stop (x := (σ, q)) (s := s) h.wf h0 hp.2 h4).1 rfl (fun f k _ hk => by rw [zu_k hk, zu_k hk, zu_k hk]) rfl rfl rfl rfl rfl (fun k0 => ?_))
  obtain ⟨b1, b2, b3, b4, b5⟩ := h.pk k0
  refine ⟨b1, b2, fun _ => ⟨h7, ?_⟩, b4, b5⟩
  have e : zu (zu (zu σ 5 p 1) 16 p (nI s)) 17 p 1 16 p = nI s := by simp [zu]
  rw [e]
  have : ∀ t : Fin 9, 0 ≤ nI t.val ∧ nI t.val < 9 := by decide +kernel
  exact this ⟨s, hs⟩
/-! the end of a process -/
theorem zT3_1 {σ : zS} {p k : Nat} {a b : Int32} (h : σ 1 k ≠ nI p) : zT3 σ p a b 1 k = σ 1 k := by
  rw [zT3_off (by decide)]
  unfold zT2 zHandN
  rw [zDie_off (f := 1) (by decide), if_neg (fun z => h z.2.2.2)]
theorem zT3_p {σ : zS} {p k f : Nat} {a b : Int32} (hk : k ≠ p) (h1 : f ≠ 1) (h21 : f ≠ 21 ∧ f ≠ 22) : zT3 σ p a b f k = σ f k := by
  rw [zT3_off h21]
  unfold zT2
  rw [zHandN_off h1]
  simp [zDie, zu, hk]
theorem zT3_how {σ : zS} {p : Nat} {a b : Int32} : zT3 σ p a b 14 p = a ∧ zT3 σ p a b 15 p = b := by
  rw [zT3_off (by decide), zT3_off (by decide)]
  unfold zT2
  rw [zHandN_off (by decide), zHandN_off (by decide)]
  simp [zDie, zu]
theorem zTq_last {σ : zS} {p : Nat} {a b : Int32} : ((9, p) : zEv) ∈ zTq σ p a b := by
  unfold zTq
  exact List.mem_append_right _ (List.mem_append_right _ (List.mem_append_right _ (List.mem_singleton.mpr rfl)))
theorem zTq_was {σ : zS} {p k : Nat} {a b : Int32} (hk : k < 41) (h : zWasZ σ p k) : ((9, k) : zEv) ∈ zTq σ p a b := by
  unfold zTq zTq2
  refine List.mem_append_right _ (List.mem_append_left _ (List.mem_map.mpr ⟨k, List.mem_filter.mpr ⟨List.mem_range.mpr hk, decide_eq_true h⟩, rfl⟩))
abbrev zHow (a b : Int32) : Prop := (a = 0 ∧ 0 ≤ b) ∨ (a = 1 ∧ 0 ≤ b ∧ b < 9)
theorem zHow.a {a b : Int32} (h : zHow a b) : a = 0 ∨ a = 1 := h.elim (fun z => Or.inl z.1) (fun z => Or.inr z.1)
theorem zIv.term {p : Nat} {σ : zS} {q : List zEv} (h : zIv p σ q) (hp : p ≠ 0 ∧ p ≠ 1) (h0 : σ 0 p ≠ 0) {a b : Int32} (ha : zHow a b) : zIv 0 (zTerm (σ, q) p a b).1 (zTerm (σ, q) p a b).2 := by
  show zIv 0 (zT3 σ p a b) (q ++ zTq σ p a b)
  have hw : zWf (zT3 σ p a b) := h.wf.t3 h0 hp.2 ha.a
  have e0 : zT3 σ p a b 0 = σ 0 := zT3_0
  have e2 : zT3 σ p a b 2 = σ 2 := by rw [zT3_off (by decide), zT2_off (by decide)]
  have e3 : zT3 σ p a b 3 = σ 3 := by rw [zT3_off (by decide), zT2_off (by decide)]
  have e7 : zT3 σ p a b 7 = σ 7 := by rw [zT3_off (by decide), zT2_off (by decide)]
  have e9 : zT3 σ p a b 9 = σ 9 := by rw [zT3_off (by decide), zT2_off (by decide)]
  have e10 : zT3 σ p a b 10 = σ 10 := by rw [zT3_off (by decide), zT2_off (by decide)]
  have e16 : zT3 σ p a b 16 = σ 16 := by rw [zT3_off (by decide), zT2_off (by decide)]
  have e18 : zT3 σ p a b 18 = σ 18 := by rw [zT3_off (by decide), zT2_off (by decide)]
  have e19 : zT3 σ p a b 19 = σ 19 := by rw [zT3_off (by decide), zT2_off (by decide)]
  have e20 : zT3 σ p a b 20 = σ 20 := by rw [zT3_off (by decide), zT2_off (by decide)]
  obtain ⟨c1, c2, c3, c4, c5, c6, c7, c8⟩ := h
  refine ⟨hw, fun k k0 => ?_, fun k k0 k4 k5 _ => ?_, fun k k0 k6 k5 _ => ?_, fun k k0 k4 k1 => ?_, ?_, ?_, ?_⟩
  · rw [e0] at k0
    obtain ⟨b1, b2, b3, b4, b5⟩ := c2 k k0
    by_cases hk : k = p
    · subst hk
      unfold zPk
      rw [zT3_4, zT3_11, zT3_how.1, zT3_how.2, zT3_56.1, e16, e18, e19, e20, e10, e9]
      exact ⟨fun _ => ⟨rfl, ha⟩, by unfold zPp; simp [zbit_0], fun z => absurd rfl z, b4, b5⟩
    · unfold zPk
      rw [zT3_p hk (by decide) (by decide), zT3_p hk (by decide) (by decide), zT3_p hk (by decide) (by decide), zT3_p hk (by decide) (by decide), zT3_p hk (by decide) (by decide), e16, e18, e19, e20, e10, e9]
      exact ⟨b1, b2, b3, b4, b5⟩
  · rw [e0] at k0
    by_cases hk : k = p
    · rw [hk, zT3_4] at k4; exact absurd k4 (by decide)
    · rw [zT3_p hk (by decide) (by decide)] at k4 k5
      have := c3 k k0 k4 k5 hk
      unfold zOpen at this ⊢
      rw [zT3_p hk (by decide) (by decide), e10]
      exact this
  · rw [e0] at k0
    by_cases hk : k = p
    · rw [hk, zT3_56.2] at k6; exact absurd rfl k6
    · rw [zT3_p hk (by decide) (by decide)] at k6 k5
      obtain ⟨j, j1, j2, j3, j4⟩ := c4 k k0 k6 k5 hk
      refine ⟨j, j1, ?_⟩
      show zT3 σ p a b 0 j ≠ 0 ∧ zT3 σ p a b 1 j = nI k ∧ (zT3 σ p a b 7 k = -1 ∨ zT3 σ p a b 7 k = nI j)
      rw [e0, e7, zT3_1 (fun z => hk ((nI_eq (by have := (c1.in k0).2; omega) (by have := (c1.in h0).2; omega)).mp (j3.symm.trans z)))]
      exact ⟨j2, j3, j4⟩
  · rw [e0] at k0
    by_cases hk : k = p
    · rw [hk]; exact List.mem_append_right _ zTq_last
    · rw [zT3_p hk (by decide) (by decide)] at k4
      by_cases hz : σ 1 k = nI p
      · exact List.mem_append_right _ (zTq_was (c1.in k0).2 ⟨k0, hz, k4⟩)
      · rw [zT3_1 hz] at k1
        exact List.mem_append_left _ (c5 k k0 k4 k1)
  · rw [e0, e2, e3]; exact c6
  · by_cases ht : zTm σ p
    · left
      rw [zT3_if ht]
      exact ⟨rfl, rfl⟩
    · have e21 : zT3 σ p a b 21 0 = σ 21 0 := by rw [zT3_no ht, zT2_off (by decide)]
      have e22 : zT3 σ p a b 22 0 = σ 22 0 := by rw [zT3_no ht, zT2_off (by decide)]
      unfold zTmI
      rw [e21, e22, e0, e3]
      rcases c7 with z | ⟨t, t1, t2, t3, t4, t5⟩
      · exact Or.inl z
      · refine Or.inr ⟨t, t1, t2, t3, ?_, t5⟩
        have htp : t ≠ p := fun z => ht (by rw [z] at t3 t1; exact ⟨t3, t1⟩)
        rw [zT3_p htp (by decide) (by decide)]
        exact t4
  · have h1 : (1 : Nat) ≠ p := fun z => hp.2 z.symm
    rw [zT3_p h1 (by decide) (by decide), zT3_p h1 (by decide) (by decide), zT3_p h1 (by decide) (by decide)]
    exact c8
/-! a process is taken away -/
theorem zIv.gone {p j : Nat} {σ : zS} {q : List zEv} (h : zIv 0 σ q) (h4 : σ 4 p ≠ 0) (hj : ∀ m, σ 1 p = nI m → m < 41 → m ≠ 1 → m = j) : zIv j (zu σ 0 p 0) q := by
  obtain ⟨c1, c2, c3, c4, c5, c6, c7, c8⟩ := h
  have hz : ∀ k, zu σ 0 p 0 0 k ≠ 0 → σ 0 k ≠ 0 ∧ k ≠ p := fun k z => by
    rw [zu_iff] at z
    by_cases hk : k = p
    · rw [if_pos hk] at z; exact absurd rfl z
    · rw [if_neg hk] at z; exact ⟨z, hk⟩
  have hn : ∀ {k : Nat}, k ≠ p → zu σ 0 p 0 0 k = σ 0 k := fun hk => zu_k hk
  refine ⟨c1.gone h4, fun k k0 => c2 k (hz k k0).1, fun k k0 k4 k5 _ => c3 k (hz k k0).1 k4 k5 (fun z => (hz k k0).1 (by rw [z]; exact c1.z)), fun k k0 k6 k5 hk => ?_, fun k k0 k4 k1 => c5 k (hz k k0).1 k4 k1, ?_, ?_, c8⟩
  · have k9 := hz k k0
    obtain ⟨i, i1, i2, i3, i4⟩ := c4 k k9.1 k6 k5 (fun z => k9.1 (by rw [z]; exact c1.z))
    have hip : i ≠ p := fun z => by
      rw [z] at i3
      by_cases hk1 : k = 1
      · rw [hk1] at k6; exact k6 c1.i.2
      · exact hk (hj k i3 (c1.in k9.1).2 hk1)
    exact ⟨i, i1, by rw [hn hip]; exact i2, i3, i4⟩
  · exact ⟨fun a b a0 b0 => c6.1 a b (hz a a0).1 (hz b b0).1, fun a b a0 b0 => c6.2.1 a b (hz a a0).1 (hz b b0).1, fun k k0 => c6.2.2 k (hz k k0).1⟩
  · rcases c7 with z | ⟨t, t1, t2, t3, t4, t5⟩
    · exact Or.inl z
    · have htp : t ≠ p := fun z => h4 (by rw [← z]; exact t4)
      exact Or.inr ⟨t, t1, by rw [hn htp]; exact t2, t3, t4, t5⟩
/-! the check of a wait -/
theorem zCheck_full (σ : zS) (p : Nat) : (zCheck σ p = σ ∧ (σ 6 p = 0 ∨ σ 5 p ≠ 0 ∨ zKids σ p)) ∨ zCheck σ p = zEnds σ p 4 (-1) (-1) ∨ (∃ k, k < 41 ∧ zRep σ p k ∧ σ 4 k ≠ 0 ∧ zCheck σ p = zu (zEnds σ p (σ 14 k) (nI k) (σ 15 k)) 0 k 0) ∨ ∃ k, k < 41 ∧ zRep σ p k ∧ σ 4 k = 0 ∧ zCheck σ p = zu (zEnds σ p 2 (nI k) (σ 16 k)) 17 k 0 := by
  unfold zCheck
  by_cases hi : σ 6 p = 0 ∨ σ 5 p ≠ 0
  · rw [if_pos hi]; exact Or.inl ⟨rfl, hi.elim Or.inl (fun z => Or.inr (Or.inl z))⟩
  · rw [if_neg hi]
    cases hb : zBest σ p 41 with
    | none =>
      show ((if ∀ k, k < 41 → ¬ zKid σ p k then zEnds σ p 4 (-1) (-1) else σ) = σ ∧ _) ∨ _
      by_cases hk : ∀ k, k < 41 → ¬ zKid σ p k
      · rw [if_pos hk]; exact Or.inr (Or.inl rfl)
      · rw [if_neg hk]
        refine Or.inl ⟨rfl, Or.inr (Or.inr ?_)⟩
        by_cases hx : zKids σ p
        · exact hx
        · exact absurd (fun k k1 k2 => hx ⟨k, k1, k2⟩) hk
    | some k =>
      obtain ⟨h1, h2⟩ := zBest_at hb
      by_cases h4 : σ 4 k ≠ 0
      · exact Or.inr (Or.inr (Or.inl ⟨k, h2, h1, h4, if_pos h4⟩))
      · exact Or.inr (Or.inr (Or.inr ⟨k, h2, h1, Classical.not_not.mp h4, if_neg h4⟩))
theorem zKid_2 {σ : zS} {p k : Nat} (h : zWf σ) (hp : p < 41) (hk : zKid σ p k) : (1 : Int32) < nI k := by
  have h1 := h.in hk.1
  have hk1 : k ≠ 1 := fun z => by
    have h2 := hk.2.1
    rw [z, h.x.2.1] at h2
    exact znm1 hp h2.symm
  exact (nI_ltI (a := 1) (b := k) (by decide) (by omega)).mpr (by omega)
theorem zIv.check {p : Nat} {σ : zS} {q : List zEv} (h : zIv p σ q) (hp : p ≠ 0 ∧ p ≠ 1) (h0 : σ 0 p ≠ 0) (hb : σ 4 p = 0 → σ 5 p = 0 → zOpen σ p = 0) : zIv 0 (zCheck σ p) q := by
  have hp41 := (h.wf.in h0).2
  have hE : ∀ {r c v : Int32}, zPw r c v → zIv 0 (zEnds σ p r c v) q := fun hw => (h.ends hp hw).full (fun _ k4 k5 => hb k4 k5) (fun _ k6 _ => absurd zEnds_w.1 k6)
  rcases zCheck_full σ p with ⟨e, hi⟩ | e | ⟨k, hk, hr, h4, e⟩ | ⟨k, hk, hr, h4, e⟩ <;> rw [e]
  · exact h.full (fun _ k4 k5 => hb k4 k5) (fun _ k6 k5 => hi.elim (fun z => absurd z k6) (fun z => z.elim (fun z => absurd k5 z) id))
  · exact hE (Or.inr (Or.inr ⟨Or.inr (Or.inr rfl), rfl, rfl⟩))
  · have h2 := zKid_2 h.wf hp41 hr.1
    have hw : zPw (σ 14 k) (nI k) (σ 15 k) := ((h.pk hr.1.1).1 h4).2.elim (fun z => Or.inl ⟨z.1, h2, z.2⟩) (fun z => Or.inr (Or.inl ⟨Or.inl z.1, h2, z.2⟩))
    have g := (hE hw).gone (p := k) (j := p) (q := q) h4 (fun m hm m41 _ => (nI_eq (by omega) (by omega)).mp (hm.symm.trans hr.1.2.1))
    exact g.full (fun _ k4 k5 => hb k4 k5) (fun _ k6 _ => absurd (show zEnds σ p (σ 14 k) (nI k) (σ 15 k) 6 p = 0 from zEnds_w.1) k6)
  · have h2 := zKid_2 h.wf hp41 hr.1
    have hs : σ 5 k ≠ 0 := (hr.2.resolve_left (fun z => z h4)).2.1
    have hw : zPw 2 (nI k) (σ 16 k) := Or.inr (Or.inl ⟨Or.inr rfl, h2, ((h.pk hr.1.1).2.2.1 hs).2⟩)
    have g := hE hw
    have hk1 : k ≠ 1 := fun z => by rw [z] at h2; exact absurd h2 (by decide)
    refine zIv.full (p := k) (zIv.own (σ := zEnds σ p 2 (nI k) (σ 16 k)) (g.weak (e := k)) ⟨by have := (h.wf.in hr.1.1).1; omega, hk1⟩ (g.wf.p17 (Or.inl rfl)) rfl (fun f j _ hj => zu_k hj) rfl rfl rfl rfl rfl (fun k0 => g.pk k0)) (fun k0 k4 k5 => absurd k5 hs) (fun _ _ k5 => absurd k5 hs)
