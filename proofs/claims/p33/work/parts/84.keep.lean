/-! each public call keeps what the law asks -/
theorem zIv.same {e : Nat} {σ τ : zS} {q : List zEv} (h : zIv e σ q) (hw : zWf τ) (ho : ∀ f, f ≠ 8 → f ≠ 13 → f ≠ 17 → f ≠ 21 → f ≠ 22 → τ f = σ f) (ht : zTmI τ) : zIv e τ q := by
  obtain ⟨a, b, c, d, r, g, t, i⟩ := h
  have e0 := ho 0 (by decide) (by decide) (by decide) (by decide) (by decide)
  have e1 := ho 1 (by decide) (by decide) (by decide) (by decide) (by decide)
  have e2 := ho 2 (by decide) (by decide) (by decide) (by decide) (by decide)
  have e3 := ho 3 (by decide) (by decide) (by decide) (by decide) (by decide)
  have e4 := ho 4 (by decide) (by decide) (by decide) (by decide) (by decide)
  have e5 := ho 5 (by decide) (by decide) (by decide) (by decide) (by decide)
  have e6 := ho 6 (by decide) (by decide) (by decide) (by decide) (by decide)
  have e7 := ho 7 (by decide) (by decide) (by decide) (by decide) (by decide)
  have e9 := ho 9 (by decide) (by decide) (by decide) (by decide) (by decide)
  have e10 := ho 10 (by decide) (by decide) (by decide) (by decide) (by decide)
  have e11 := ho 11 (by decide) (by decide) (by decide) (by decide) (by decide)
  have e12 := ho 12 (by decide) (by decide) (by decide) (by decide) (by decide)
  have e14 := ho 14 (by decide) (by decide) (by decide) (by decide) (by decide)
  have e15 := ho 15 (by decide) (by decide) (by decide) (by decide) (by decide)
  have e16 := ho 16 (by decide) (by decide) (by decide) (by decide) (by decide)
  have e18 := ho 18 (by decide) (by decide) (by decide) (by decide) (by decide)
  have e19 := ho 19 (by decide) (by decide) (by decide) (by decide) (by decide)
  have e20 := ho 20 (by decide) (by decide) (by decide) (by decide) (by decide)
  refine ⟨hw, fun k k0 => ?_, fun k k0 k4 k5 hk => ?_, fun k k0 k6 k5 hk => ?_, ?_, ?_, ht, ?_⟩
  · rw [e0] at k0
    have := b k k0
    unfold zPk at this ⊢
    rw [e9, e4, e11, e14, e15, e5, e16, e18, e19, e20, e10]
    exact this
  · rw [e0] at k0
    rw [e4] at k4
    rw [e5] at k5
    have := c k k0 k4 k5 hk
    unfold zOpen at this ⊢
    rw [e11, e10]
    exact this
  · rw [e0] at k0
    rw [e6] at k6
    rw [e5] at k5
    obtain ⟨j, j1, j2⟩ := d k k0 k6 k5 hk
    refine ⟨j, j1, ?_⟩
    show τ 0 j ≠ 0 ∧ τ 1 j = nI k ∧ (τ 7 k = -1 ∨ τ 7 k = nI j)
    rw [e0, e1, e7]
    exact j2
  · rw [e0, e4, e1]; exact r
  · rw [e0, e2, e3]; exact g
  · rw [e11, e12, e18]; exact i
theorem zIv.p13 {σ : zS} (h : zIv 0 σ []) {p : Nat} {v : Int32} (h1 : p ≠ 1) (hv : v = 0 ∨ v = 1) : zIv 0 (zu σ 13 p v) [] := h.same (h.wf.p13 h1 hv) (fun f _ h13 _ _ _ => zu_off h13) h.2.2.2.2.2.2.1
theorem zIv.p22 {σ : zS} (h : zIv 0 σ []) {p g : Nat} (h3 : σ 3 p = σ 21 0) (h0 : σ 0 p ≠ 0) (hg : 1 ≤ g ∧ g < 41) : zIv 0 (zu σ 22 0 (nI g)) [] := by
  refine h.same h.wf.p22 (fun f _ _ _ _ h22 => zu_off h22) ?_
  rcases h.2.2.2.2.2.2.1 with z | ⟨t, t1, t2, t3, t4, t5⟩
  · obtain ⟨g9, e9, a, b⟩ := (h.wf.1 p h0).2.2.2.1
    rw [z.1, e9] at h3
    exact absurd h3 (znm1 b)
  · refine Or.inr ⟨t, t1, t2, t3, t4, ?_⟩
    show 0 < zu σ 22 0 (nI g) 22 0
    rw [zu_self]
    exact (nI_ltI (a := 0) (b := g) (by decide) (by omega)).mpr (by omega)
theorem zIv.openT {σ : zS} (h : zIv 0 σ []) {p : Nat} (h0 : σ 0 p ≠ 0) (h4 : σ 4 p = 0) (h3 : σ 3 p = nI p) : zIv 0 (zu (zu σ 21 0 (nI p)) 22 0 (σ 2 p)) [] := by
  have hp := h.wf.in h0
  refine h.same (h.wf.top ⟨p, rfl, hp.1, hp.2⟩) (fun f _ _ _ h21 h22 => by rw [zu_off h22, zu_off h21]) (Or.inr ⟨p, ?_, h0, h3, h4, ?_⟩)
  · rfl
  · obtain ⟨g9, e9, a, b⟩ := (h.wf.1 p h0).2.2.1
    show 0 < zu (zu σ 21 0 (nI p)) 22 0 (σ 2 p) 22 0
    rw [zu_self, e9]
    exact (nI_ltI (a := 0) (b := g9) (by decide) (by omega)).mpr (by omega)
theorem zIv.free {σ : zS} (h : zIv 0 σ []) : zIv 0 (zFreeT σ) [] := h.same h.wf.free (fun f _ _ _ h21 h22 => by unfold zFreeT; rw [zu_off h22, zu_off h21]) (Or.inl ⟨rfl, rfl⟩)
/-- actions change, and signals are forgotten -/
theorem zIv.acts {σ τ : zS} (h : zIv 0 σ []) (hw : zWf τ) (ho : ∀ g, g ≠ 9 → g ≠ 11 → τ g = σ g) (h9 : ∀ k, σ 0 k ≠ 0 → τ 9 (9 * k + 2) ≠ 2 ∧ τ 9 (9 * k + 5) ≠ 2) (h11 : ∀ k s, s < 32 → zbit (τ 11 k) s = true → zbit (σ 11 k) s = true) : zIv 0 τ [] := by
  have hb : ∀ k s, s < 32 → zbit (σ 11 k) s = false → zbit (τ 11 k) s = false := fun k s hs hz => by
    cases hx : zbit (τ 11 k) s with
    | false => rfl
    | true => rw [h11 k s hs hx] at hz; exact hz
  have hz0 : ∀ k, σ 11 k = 0 → τ 11 k = 0 := fun k hk => by
    apply zbit_ext
    intro s hs
    rw [zbit_0]
    exact hb k s hs (by rw [hk, zbit_0])
  obtain ⟨a, b, c, d, r, g, t, i⟩ := h
  have e0 := ho 0 (by decide) (by decide)
  have e4 := ho 4 (by decide) (by decide)
  have e5 := ho 5 (by decide) (by decide)
  refine ⟨hw, fun k k0 => ?_, fun k k0 k4 k5 hk => ?_, fun k k0 k6 k5 hk => ?_, ?_, ?_, ?_, ?_⟩
  · rw [e0] at k0
    obtain ⟨b1, b2, b3, b4, b5⟩ := b k k0
    unfold zPk
    rw [e4, e5, ho 14 (by decide) (by decide), ho 15 (by decide) (by decide), ho 16 (by decide) (by decide), ho 18 (by decide) (by decide), ho 19 (by decide) (by decide), ho 20 (by decide) (by decide), ho 10 (by decide) (by decide)]
    refine ⟨fun z => ⟨hz0 k (b1 z).1, (b1 z).2⟩, ⟨hb k 2 (by decide) b2.1, hb k 5 (by decide) b2.2.1, fun z => b2.2.2 ⟨h11 k 6 (by decide) z.1, h11 k 7 (by decide) z.2⟩⟩, fun z => ⟨hb k 7 (by decide) (b3 z).1, (b3 z).2⟩, b4, b5.1, h9 k k0⟩
  · rw [e0] at k0
    rw [e4] at k4
    rw [e5] at k5
    have h1 := c k k0 k4 k5 hk
    apply zbit_ext
    intro s hs
    have h2 : zbit (zOpen σ k) s = false := by rw [h1, zbit_0]
    rw [zbit_0, zopen_bit hs, ho 10 (by decide) (by decide)]
    rw [zopen_bit hs] at h2
    cases hx : zbit (τ 11 k) s with
    | false => rfl
    | true => rw [h11 k s hs hx] at h2; exact h2
  · rw [e0] at k0
    rw [ho 6 (by decide) (by decide)] at k6
    rw [e5] at k5
    obtain ⟨j, j1, j2⟩ := d k k0 k6 k5 hk
    refine ⟨j, j1, ?_⟩
    show τ 0 j ≠ 0 ∧ τ 1 j = nI k ∧ (τ 7 k = -1 ∨ τ 7 k = nI j)
    rw [e0, ho 1 (by decide) (by decide), ho 7 (by decide) (by decide)]
    exact j2
  · rw [e0, e4, ho 1 (by decide) (by decide)]; exact r
  · rw [e0, ho 2 (by decide) (by decide), ho 3 (by decide) (by decide)]; exact g
  · unfold zTmI
    rw [ho 21 (by decide) (by decide), ho 22 (by decide) (by decide), e0, ho 3 (by decide) (by decide), e4]
    exact t
  · rw [ho 12 (by decide) (by decide), ho 18 (by decide) (by decide)]
    exact ⟨hz0 1 i.1, i.2⟩
theorem zIv.setA {σ : zS} (h : zIv 0 σ []) {p : Nat} {s a : Int32} (hs : pn s < 9) (h2 : pn s ≠ 2) (h5 : pn s ≠ 5) (ha : a = 0 ∨ a = 1 ∨ a = 2) : zIv 0 (zSetA σ p s a) [] := by
  refine h.acts (h.wf.setA hs ha) (fun g h9 h11 => by unfold zSetA; rw [zu_off h11, zu_off h9]) (fun k k0 => ?_) (fun k t ht hx => ?_)
  · have hk := (h.pk k0).2.2.2.2.2
    unfold zSetA
    rw [zu_off (by decide), zu_iff, zu_iff, if_neg (by omega), if_neg (by omega)]
    exact hk
  · unfold zSetA at hx
    rw [zu_iff] at hx
    split at hx
    · rename_i hk
      rw [hk]
      split at hx
      · rw [zbit_clr (by omega) ht, Bool.and_eq_true] at hx
        exact hx.1
      · exact hx
    · rw [zu_off (by decide)] at hx
      exact hx
theorem zIv.exec {σ : zS} (h : zIv 0 σ []) {p : Nat} : zIv 0 (zExecN σ p 9) [] := by
  refine h.acts h.wf.exec (fun g h9 h11 => zExecN_off h9 h11 9) (fun k k0 => ?_) (fun k t ht hx => ?_)
  · have hk := (h.pk k0).2.2.2.2.2
    by_cases hkp : k = p
    · rw [hkp] at hk ⊢
      rw [zExecN_9, zExecN_9]
      constructor
      · split
        · decide
        · exact hk.1
      · split
        · decide
        · exact hk.2
    · rw [zExecN_9o 9 (Nat.le_refl _) (fun t ht => by omega), zExecN_9o 9 (Nat.le_refl _) (fun t ht => by omega)]
      exact hk
  · by_cases hk : k = p
    · rw [hk] at hx ⊢
      rw [zExecN_11 9 (Nat.le_refl _) t ht, Bool.and_eq_true] at hx
      exact hx.1
    · rw [zExecN_11o hk] at hx
      exact hx
theorem zIv.waits {σ : zS} (h : zIv 0 σ []) {p : Nat} {c f : Int32} (h0 : σ 0 p ≠ 0) (h4 : σ 4 p = 0) (h1 : p ≠ 1) (hf : f = 0 ∨ f = 1) : zIv 0 (zCheck (zWset σ p c f) p) [] := by
  have hp : p ≠ 0 ∧ p ≠ 1 := ⟨fun z => h0 (by rw [z]; exact h.wf.z), h1⟩
  have hw : zIv p (zWset σ p c f) [] := (h.weak (e := p)).own hp (h.wf.wset h4 h1 hf) rfl (fun g k _ hk => by show zu (zu (zu σ 6 p 1) 7 p c) 8 p f g k = σ g k; rw [zu_k hk, zu_k hk, zu_k hk]) rfl rfl rfl rfl rfl (fun k0 => h.pk k0)
  exact hw.check hp h0 (fun k4 k5 => h.op h0 k4 k5)
theorem zMk_475 {a : Nat} (h : a < 512) : (nI a &&& (-37)) &&& 475 = nI a &&& (-37) := by
  have : ∀ t : Fin 512, (nI t.val &&& (-37)) &&& 475 = nI t.val &&& (-37) := by decide +kernel
  exact this ⟨a, h⟩
theorem zIv.mk {σ : zS} (h : zIv 0 σ []) {p a : Nat} (h0 : σ 0 p ≠ 0) (h1 : p ≠ 1) (ha : a < 512) : zIv p (zMk σ p (nI a)) [] := by
  have hp : p ≠ 0 ∧ p ≠ 1 := ⟨fun z => h0 (by rw [z]; exact h.wf.z), h1⟩
  refine (h.weak (e := p)).own hp h.wf.mk rfl (fun g k _ hk => zu_k hk) rfl rfl rfl rfl rfl (fun k0 => ?_)
  obtain ⟨b1, b2, b3, b4, b5⟩ := h.pk k0
  refine ⟨b1, b2, b3, b4, ?_, b5.2⟩
  have e : zMk σ p (nI a) 10 p = nI a &&& (-37) := zu_self
  rw [e]
  exact zMk_475 ha
theorem zIv.begin {σ : zS} (h : zIv 0 σ []) {p : Nat} (h0 : σ 0 p ≠ 0) (h1 : p ≠ 1) (hg : ∀ k, σ 0 k ≠ 0 → σ 2 k ≠ nI p) : zIv 0 (zu (zu σ 3 p (nI p)) 2 p (nI p)) [] := by
  have hp := h.wf.in h0
  have hw : zWf (zu (zu σ 3 p (nI p)) 2 p (nI p)) := (h.wf.p3 h1 ⟨p, rfl, hp.1, hp.2⟩).p2 h1 ⟨p, rfl, hp.1, hp.2⟩
  obtain ⟨a, b, c, d, r, ⟨g1, g2, g3⟩, t, i⟩ := h
  have t2 : ∀ k, zu (zu σ 3 p (nI p)) 2 p (nI p) 2 k = if k = p then nI p else σ 2 k := fun k => zu_iff
  have t3 : ∀ k, zu (zu σ 3 p (nI p)) 2 p (nI p) 3 k = if k = p then nI p else σ 3 k := fun k => (congrFun (zu_off (by decide)) k).trans zu_iff
  refine ⟨hw, fun k k0 => b k k0, fun k k0 k4 k5 hk => c k k0 k4 k5 hk, fun k k0 k6 k5 hk => d k k0 k6 k5 hk, r, ⟨fun j k j0 k0 => ?_, fun j k j0 k0 => ?_, fun k k0 => ?_⟩, ?_, i⟩
  · rw [t2, t2, t3, t3]
    have j9 := hg j j0
    have k9 := hg k k0
    by_cases hj : j = p
    · by_cases hk : k = p
      · rw [hj, hk]; exact fun _ => rfl
      · rw [if_pos hj, if_neg hk]; exact fun z => absurd z.symm k9
    · by_cases hk : k = p
      · rw [if_neg hj, if_pos hk]; exact fun z => absurd z j9
      · rw [if_neg hj, if_neg hk, if_neg hj, if_neg hk]; exact g1 j k j0 k0
  · rw [t2, t3, t3]
    have k9 := hg k k0
    have hj1 := a.in j0
    by_cases hk : k = p
    · rw [if_pos hk, if_pos hk]
      intro z
      rw [if_pos ((nI_eq (by omega) (by omega)).mp z).symm]
    · rw [if_neg hk, if_neg hk]
      intro z
      by_cases hj : j = p
      · rw [hj] at z; exact absurd z k9
      · rw [if_neg hj]; exact g2 j k j0 k0 z
  · rw [t2, t3]
    by_cases hk : k = p
    · rw [if_pos hk, if_pos hk, hk]; exact fun _ => rfl
    · rw [if_neg hk, if_neg hk]; exact g3 k k0
  · rcases t with z | ⟨t, a1, a2, a3, a4, a5⟩
    · exact Or.inl z
    · have htp : t ≠ p := fun z => by
        rw [z] at a3
        exact hg p h0 (g3 p h0 a3)
      refine Or.inr ⟨t, a1, a2, ?_, a4, a5⟩
      rw [t3, if_neg htp]; exact a3
theorem zIv.group {σ : zS} (h : zIv 0 σ []) {p t g : Nat} (hp0 : σ 0 p ≠ 0) (ht0 : σ 0 t ≠ 0) (hg : 1 ≤ g ∧ g < 41) (hP : zPoss σ p t (nI g)) : zIv 0 (zu σ 2 t (nI g)) [] := by
  have ht1 : t ≠ 1 := fun z => hP.2.2.1 (by rw [z]; exact h.wf.2.2.2.2.1.2.2.2.1)
  have hw : zWf (zu σ 2 t (nI g)) := h.wf.p2 ht1 ⟨g, rfl, hg.1, hg.2⟩
  obtain ⟨a, b, c, d, r, ⟨g1, g2, g3⟩, tm, i⟩ := h
  have t2 : ∀ k, zu σ 2 t (nI g) 2 k = if k = t then nI g else σ 2 k := fun k => zu_iff
  have ht := a.in ht0
  -- whoever has the group g is in t's session
  have key : ∀ k, σ 0 k ≠ 0 → σ 2 k = nI g → σ 3 t = σ 3 k := fun k k0 k2 => by
    rcases hP.2.2.2.2 with z | z
    · rw [z] at k2
      exact (g2 t k ht0 k0 k2).symm
    · have : ∃ m, m < 41 ∧ zMem σ m (nI g) ∧ σ 3 m = σ 3 p := by
        by_cases hx : ∃ m, m < 41 ∧ zMem σ m (nI g) ∧ σ 3 m = σ 3 p
        · exact hx
        · exact absurd (fun m m1 m2 => hx ⟨m, m1, m2⟩) z
      obtain ⟨m, m1, m2, m3⟩ := this
      rw [hP.2.2.2.1, ← m3]
      exact g1 m k m2.1 k0 (m2.2.2.trans k2.symm)
  refine ⟨hw, fun k k0 => b k k0, fun k k0 k4 k5 hk => c k k0 k4 k5 hk, fun k k0 k6 k5 hk => d k k0 k6 k5 hk, r, ⟨fun j k j0 k0 => ?_, fun j k j0 k0 => ?_, fun k k0 => ?_⟩, tm, i⟩
  · rw [t2, t2]
    show _ → σ 3 j = σ 3 k
    by_cases hj : j = t
    · by_cases hk : k = t
      · rw [hj, hk]; exact fun _ => rfl
      · rw [if_pos hj, if_neg hk, hj]; exact fun z => key k k0 z.symm
    · by_cases hk : k = t
      · rw [if_neg hj, if_pos hk, hk]; exact fun z => (key j j0 z).symm
      · rw [if_neg hj, if_neg hk]; exact g1 j k j0 k0
  · rw [t2]
    show _ → σ 3 k = σ 3 j
    by_cases hk : k = t
    · rw [if_pos hk, hk]
      intro z
      have hjg : j = g := ((nI_eq (by omega) (by have := (a.in j0).2; omega)).mp z).symm
      subst hjg
      rcases hP.2.2.2.2 with y | y
      · rw [(nI_eq (by omega) (by omega)).mp y]
      · have : ∃ m, m < 41 ∧ zMem σ m (nI j) ∧ σ 3 m = σ 3 p := by
          by_cases hx : ∃ m, m < 41 ∧ zMem σ m (nI j) ∧ σ 3 m = σ 3 p
          · exact hx
          · exact absurd (fun m m1 m2 => hx ⟨m, m1, m2⟩) y
        obtain ⟨m, m1, m2, m3⟩ := this
        rw [hP.2.2.2.1, ← m3]
        exact g2 j m j0 m2.1 m2.2.2
    · rw [if_neg hk]; exact g2 j k j0 k0
  · rw [t2]
    show σ 3 k = nI k → _
    by_cases hk : k = t
    · rw [hk]; exact fun z => absurd z hP.2.2.1
    · rw [if_neg hk]; exact g3 k k0
theorem zIv.fork {σ : zS} (h : zIv 0 σ []) {k f : Nat} (hk0 : σ 0 k ≠ 0) (hk4 : σ 4 k = 0) (hf1 : 1 ≤ f) (hf : f < 41) (hfree : zFreeN σ f 41) : zIv 0 (zFork σ (nI k) f) [] := by
  have hk := h.wf.in hk0
  have ek : pn (nI k) = k := nI_clamp (by omega)
  have hkf : pn (nI k) ≠ f := by rw [ek]; exact fun z => hk0 (by rw [z]; exact hfree.1)
  have hw : zWf (zFork σ (nI k) f) := h.wf.fork (by rw [ek]) (by rw [ek]; exact hk0) (by rw [ek]; exact hk4) hf1 hf hfree.1
  obtain ⟨e0, e1, e2, e3, e4, e5, e6, e10, e11, e12, e13, e17, e18, e19, e20⟩ := zFork_f (σ := σ) (x := nI k) hkf
  rw [ek] at e2 e3 e10 hkf
  have o : ∀ g j, g ≠ 9 → j ≠ f → zFork σ (nI k) f g j = σ g j := fun g j h9 hj => zFork_o h9 hj
  have t0 : ∀ j, zFork σ (nI k) f 0 j ≠ 0 → j = f ∨ (j ≠ f ∧ σ 0 j ≠ 0) := fun j z => by
    by_cases hj : j = f
    · exact Or.inl hj
    · exact Or.inr ⟨hj, by rw [o 0 j (by decide) hj] at z; exact z⟩
  have nf : ∀ j, σ 0 j ≠ 0 → j ≠ f := fun j j0 z => j0 (by rw [z]; exact hfree.1)
  have n2 : ∀ j, σ 0 j ≠ 0 → σ 2 j ≠ nI f ∧ σ 3 j ≠ nI f := fun j j0 => ⟨fun z => hfree.2 j (h.wf.in j0).2 ⟨j0, Or.inl z⟩, fun z => hfree.2 j (h.wf.in j0).2 ⟨j0, Or.inr z⟩⟩
  have f1 : (1 : Nat) ≠ f := nf 1 h.wf.x0
  obtain ⟨a, b, c, d, r, ⟨g1, g2, g3⟩, t, i⟩ := h
  -- the child stands for its parent, as far as group and session go
  have rho : ∀ j, zFork σ (nI k) f 0 j ≠ 0 → ∃ m, σ 0 m ≠ 0 ∧ zFork σ (nI k) f 2 j = σ 2 m ∧ zFork σ (nI k) f 3 j = σ 3 m ∧ (j ≠ f → m = j) := fun j z => by
    rcases t0 j z with hj | ⟨hj, j0⟩
    · exact ⟨k, hk0, by rw [hj, e2], by rw [hj, e3], fun y => absurd hj y⟩
    · exact ⟨j, j0, o 2 j (by decide) hj, o 3 j (by decide) hj, fun _ => rfl⟩
  refine ⟨hw, fun j z => ?_, fun j z z4 z5 _ => ?_, fun j z z6 z5 _ => ?_, fun j z z4 z1 => ?_, ⟨fun j m z y => ?_, fun j m z y => ?_, fun j z => ?_⟩, ?_, ?_⟩
  · rcases t0 j z with hj | ⟨hj, j0⟩
    · rw [hj]
      obtain ⟨b1, b2, b3, b4, b5⟩ := b k hk0
      unfold zPk
      rw [e4, e5, e10, e11, e18, e19, e20, zFork_9f (by decide), zFork_9f (by decide), ek]
      exact ⟨fun z => absurd rfl z, by unfold zPp; simp [zbit_0], fun z => absurd rfl z, Or.inr (Or.inr ⟨Or.inl rfl, rfl, rfl⟩), b5⟩
    · have := b j j0
      unfold zPk at this ⊢
      rw [o 4 j (by decide) hj, o 5 j (by decide) hj, o 10 j (by decide) hj, o 11 j (by decide) hj, o 14 j (by decide) hj, o 15 j (by decide) hj, o 16 j (by decide) hj, o 18 j (by decide) hj, o 19 j (by decide) hj, o 20 j (by decide) hj, zFork_9 (by omega), zFork_9 (by omega)]
      exact this
  · rcases t0 j z with hj | ⟨hj, j0⟩
    · rw [hj]
      unfold zOpen
      rw [e11]
      simp
    · rw [o 4 j (by decide) hj] at z4
      rw [o 5 j (by decide) hj] at z5
      have := c j j0 z4 z5 (fun y => j0 (by rw [y]; exact a.z))
      unfold zOpen at this ⊢
      rw [o 11 j (by decide) hj, o 10 j (by decide) hj]
      exact this
  · rcases t0 j z with hj | ⟨hj, j0⟩
    · rw [hj, e6] at z6; exact absurd rfl z6
    · rw [o 6 j (by decide) hj] at z6
      rw [o 5 j (by decide) hj] at z5
      obtain ⟨m, m1, m2, m3, m4⟩ := d j j0 z6 z5 (fun y => j0 (by rw [y]; exact a.z))
      have hm := nf m m2
      refine ⟨m, m1, ?_⟩
      show zFork σ (nI k) f 0 m ≠ 0 ∧ zFork σ (nI k) f 1 m = nI j ∧ (zFork σ (nI k) f 7 j = -1 ∨ zFork σ (nI k) f 7 j = nI m)
      rw [o 0 m (by decide) hm, o 1 m (by decide) hm, o 7 j (by decide) hj]
      exact ⟨m2, m3, m4⟩
  · rcases t0 j z with hj | ⟨hj, j0⟩
    · rw [hj, e4] at z4; exact absurd rfl z4
    · rw [o 4 j (by decide) hj] at z4
      rw [o 1 j (by decide) hj] at z1
      exact r j j0 z4 z1
  · obtain ⟨j', a1, a2, a3, a4⟩ := rho j z
    obtain ⟨m', b1, b2, b3, b4⟩ := rho m y
    rw [a2, a3, b2, b3]
    exact g1 j' m' a1 b1
  · obtain ⟨j', a1, a2, a3, a4⟩ := rho j z
    obtain ⟨m', b1, b2, b3, b4⟩ := rho m y
    rw [a3, b2, b3]
    intro w
    by_cases hj : j = f
    · rw [hj] at w; exact absurd w (n2 m' b1).1
    · have := a4 hj
      rw [this] at a1 ⊢
      exact g2 j m' a1 b1 w
  · obtain ⟨j', a1, a2, a3, a4⟩ := rho j z
    rw [a2, a3]
    intro w
    by_cases hj : j = f
    · rw [hj] at w; exact absurd w (n2 j' a1).2
    · have := a4 hj
      rw [this] at a1 w ⊢
      exact g3 j a1 w
  · unfold zTmI
    rw [zFork_top (by decide), zFork_top (by decide)]
    rcases t with z | ⟨t, a1, a2, a3, a4, a5⟩
    · exact Or.inl z
    · have ht := nf t a2
      exact Or.inr ⟨t, a1, by rw [o 0 t (by decide) ht]; exact a2, by rw [o 3 t (by decide) ht]; exact a3, by rw [o 4 t (by decide) ht]; exact a4, a5⟩
  · rw [o 11 1 (by decide) f1, o 12 1 (by decide) f1, o 18 1 (by decide) f1]
    exact i
theorem zIv_init : zIv 0 zInit [] := by
  have i0 : ∀ k, zInit 0 k ≠ 0 → k = 1 := fun k z => zInit_0.mp z
  refine ⟨zWf_init, fun k z => ?_, fun k z _ _ _ => ?_, fun k z z6 _ _ => absurd rfl z6, fun k z z4 _ => absurd rfl z4, ⟨fun j k a b => ?_, fun j k a b => ?_, fun k a => ?_⟩, Or.inl ⟨rfl, rfl⟩, ⟨rfl, rfl, rfl⟩⟩
  · have hk := i0 k z
    subst hk
    refine ⟨fun y => absurd rfl y, ⟨by decide, by decide, by decide⟩, fun y => absurd rfl y, Or.inr (Or.inr ⟨Or.inl rfl, rfl, rfl⟩), by show (0 : Int32) &&& 475 = 0; decide, by show (0 : Int32) ≠ 2; decide, by show (0 : Int32) ≠ 2; decide⟩
  · show (0 : Int32) &&& ((0 : Int32) ^^^ (-1)) = 0
    decide
  · rw [i0 j a, i0 k b]; exact fun _ => rfl
  · rw [i0 j a, i0 k b]; exact fun _ => rfl
  · rw [i0 k a]; exact fun _ => rfl
theorem zIv.fin {N : Nat} {X : zS × List zEv} (h : zIv 0 X.1 X.2) (hr : zReady N X) : zIv 0 (zFin N X) [] := h.go hr.1 hr.2.1
theorem zIv.queue {σ : zS} {q : List zEv} (h : zIv 0 σ []) : zIv 0 σ q := h.more (fun k hk => absurd hk List.not_mem_nil)
