/-! what holds between calls is kept by every step -/
theorem zu_iff {σ : zS} {f p k : Nat} {v : Int32} : zu σ f p v f k = if k = p then v else σ f k := by simp [zu]
theorem zWf.own {σ τ : zS} (h : zWf σ) (e0 : τ 0 = σ 0) (e1 : τ 1 = σ 1) (e2 : τ 2 = σ 2) (e3 : τ 3 = σ 3) (e9 : τ 9 = σ 9) (e13 : τ 13 = σ 13) (e21 : τ 21 0 = σ 21 0) (e4 : τ 4 = σ 4)
    (h3 : ∀ k, σ 0 k ≠ 0 → σ 4 k ≠ 0 → τ 6 k = 0 ∧ τ 5 k = 0 ∧ (τ 14 k = 0 ∨ τ 14 k = 1)) (h5 : τ 5 1 = 0 ∧ τ 6 1 = 0)
    (h6 : ∀ k, (τ 5 k = 0 ∨ τ 5 k = 1) ∧ (τ 6 k = 0 ∨ τ 6 k = 1) ∧ (τ 8 k = 0 ∨ τ 8 k = 1) ∧ (τ 17 k = 0 ∨ τ 17 k = 1)) (h7 : ∀ k, τ 11 k &&& 511 = τ 11 k) : zWf τ := by
  obtain ⟨c1, c2, c3, c4, c5, c6, c7, c8⟩ := h
  refine ⟨?_, ?_, ?_, ?_, ?_, ?_, h7, ?_⟩
  · rw [e0, e2, e3, e9]; exact c1
  · rw [e0, e1, e4]; exact c2
  · rw [e0, e4]; exact h3
  · rw [e0, e1]; exact c4
  · rw [e0, e1, e2, e3, e4, e13]
    exact ⟨c5.1, c5.2.1, c5.2.2.1, c5.2.2.2.1, c5.2.2.2.2.1, h5.1, h5.2, c5.2.2.2.2.2.2.2⟩
  · intro k
    rw [e0, e4, e13]
    exact ⟨(c6 k).1, (c6 k).2.1, (h6 k).1, (h6 k).2.1, (h6 k).2.2.1, (c6 k).2.2.2.2.2.1, (h6 k).2.2.2⟩
  · rw [e21]; exact c8
theorem zWf.b {σ : zS} (h : zWf σ) (k : Nat) : (σ 5 k = 0 ∨ σ 5 k = 1) ∧ (σ 6 k = 0 ∨ σ 6 k = 1) ∧ (σ 8 k = 0 ∨ σ 8 k = 1) ∧ (σ 17 k = 0 ∨ σ 17 k = 1) := by
  have c6 := h.2.2.2.2.2.1 k
  exact ⟨c6.2.2.1, c6.2.2.2.1, c6.2.2.2.2.1, c6.2.2.2.2.2.2⟩
theorem zWf.i {σ : zS} (h : zWf σ) : σ 5 1 = 0 ∧ σ 6 1 = 0 := ⟨h.2.2.2.2.1.2.2.2.2.2.1, h.2.2.2.2.1.2.2.2.2.2.2.1⟩
theorem zWf.z {σ : zS} (h : zWf σ) : σ 0 0 = 0 := by
  by_cases h0 : σ 0 0 = 0
  · exact h0
  · exact absurd (h.1 0 h0).1 (by decide)
theorem zWf.x {σ : zS} (h : zWf σ) : σ 0 1 = 1 ∧ σ 1 1 = -1 ∧ σ 4 1 = 0 ∧ σ 13 1 = 0 := ⟨h.2.2.2.2.1.1, h.2.2.2.2.1.2.1, h.2.2.2.2.1.2.2.2.2.1, h.2.2.2.2.1.2.2.2.2.2.2.2⟩
theorem zWf.x0 {σ : zS} (h : zWf σ) : σ 0 1 ≠ 0 := by rw [h.x.1]; decide
theorem zWf.in {σ : zS} (h : zWf σ) {k : Nat} (hk : σ 0 k ≠ 0) : 1 ≤ k ∧ k < 41 := ⟨(h.1 k hk).1, (h.1 k hk).2.1⟩
theorem zWf.z1 {σ : zS} (h : zWf σ) {k : Nat} (hk : σ 4 k ≠ 0) : k ≠ 1 := fun z => hk (by rw [z]; exact h.x.2.2.1)
theorem zWf.has {σ : zS} (h : zWf σ) : zHas σ := ⟨fun k hk h0 => ⟨(h.1 k h0).1, (h.1 k h0).2.2.1, (h.1 k h0).2.2.2.1⟩, fun k hk h0 h1 => by
  obtain ⟨j, a, b, c, d, e, f⟩ := h.2.1 k h0 h1
  exact ⟨j, a, b, c, e⟩, h.z, h.x.2.1⟩
theorem zWf.wt {σ : zS} (h : zWf σ) : zWt σ := ⟨fun k hk h0 h4 => h.2.2.1 k h0 h4, fun k hk h0 h4 j hj hjk hj0 hj1 hz => by
  obtain ⟨i, a, b, c, d, e, f⟩ := h.2.1 j hj0 hj1
  rw [a, show pn (nI i) = i from nI_clamp (by omega)] at hz
  subst hz
  exact h4 f⟩
theorem zWf.rank {σ : zS} (h : zWf σ) : ∃ c : Nat → Nat, ∀ k, σ 0 k ≠ 0 → k ≠ 1 → c (pn (σ 1 k)) < c k := h.2.2.2.1
theorem zHeir_rank {σ : zS} {c : Nat → Nat} (hc : ∀ k, σ 0 k ≠ 0 → k ≠ 1 → c (pn (σ 1 k)) < c k) : ∀ {n q : Nat}, zAnc n σ q → c (zHeir (n + 1) σ q) ≤ c q
  | 0, q, h => by
    rw [show q = 1 from h]
    simp [zHeir]
  | n + 1, q, h => by
    unfold zHeir
    split
    · rename_i hq; rw [hq]; exact Nat.le_refl _
    · rename_i hq
      split
      · exact Nat.le_refl _
      · obtain ⟨a1, a2, a3, j, a4, a5, a6, a7⟩ := h.resolve_left hq
        have h1 := hc q a3 hq
        have h2 := zHeir_rank hc a7
        rw [a4, show pn (nI j) = j from nI_clamp (by omega)] at h1 ⊢
        omega
theorem zFil2 : ∀ q : Fin 41, 1 ≤ q.val → 2 ≤ ((List.range 41).filter (fun k => decide (k = q.val ∨ k = 0))).length := by decide +kernel
theorem zFil1 : ∀ q : Fin 41, 1 ≤ ((List.range 41).filter (fun k => decide (k = q.val))).length := by decide +kernel
def zBel (σ : zS) (c : Nat → Nat) (q : Nat) : Nat := ((List.range 41).filter (fun k => decide (σ 0 k ≠ 0 ∧ c k < c q))).length
theorem zBel_lt {σ : zS} {c : Nat → Nat} {j q : Nat} (hj : j < 41) (hj0 : σ 0 j ≠ 0) (h : c j < c q) : zBel σ c j < zBel σ c q := by
  have h1 := zFil_len (fun k => decide (σ 0 k ≠ 0 ∧ c k < c j)) (fun k => decide (k = j)) (fun k => decide (σ 0 k ≠ 0 ∧ c k < c q)) (fun k hk => by
    have := of_decide_eq_true hk
    exact decide_eq_true ⟨this.1, Nat.lt_trans this.2 h⟩) (fun k hk => by
    have := of_decide_eq_true hk
    rw [this]
    exact decide_eq_true ⟨hj0, h⟩) (fun k a b => by
    have h1 := of_decide_eq_true a
    have h2 := of_decide_eq_true b
    rw [h2] at h1
    exact Nat.lt_irrefl _ h1.2) (List.range 41)
  have h2 := zFil1 ⟨j, hj⟩
  unfold zBel
  have h3 : 1 ≤ ((List.range 41).filter (fun k => decide (k = j))).length := h2
  omega
theorem zBel_39 {σ : zS} {c : Nat → Nat} {q : Nat} (h0 : σ 0 0 = 0) (hq : 1 ≤ q ∧ q < 41) : zBel σ c q ≤ 39 := by
  have h1 := zFil_len (fun k => decide (σ 0 k ≠ 0 ∧ c k < c q)) (fun k => decide (k = q ∨ k = 0)) (fun _ => true) (fun _ _ => rfl) (fun _ _ => rfl) (fun k a b => by
    have h1 := of_decide_eq_true a
    have h2 := of_decide_eq_true b
    rcases h2 with z | z
    · rw [z] at h1; exact Nat.lt_irrefl _ h1.2
    · rw [z] at h1; exact h1.1 h0) (List.range 41)
  have h2 : 2 ≤ ((List.range 41).filter (fun k => decide (k = q ∨ k = 0))).length := zFil2 ⟨q, hq.2⟩ hq.1
  have h3 : ((List.range 41).filter (fun _ => true)).length ≤ 41 := Nat.le_trans (List.length_filter_le _ _) (by simp)
  unfold zBel
  omega
theorem zAnc_of {σ : zS} (h : zWf σ) {c : Nat → Nat} (hc : ∀ k, σ 0 k ≠ 0 → k ≠ 1 → c (pn (σ 1 k)) < c k) : ∀ {n q : Nat}, σ 0 q ≠ 0 → zBel σ c q ≤ n → zAnc n σ q
  | 0, q, h0, hb => by
    by_cases hq : q = 1
    · exact hq
    · obtain ⟨j, a, b, d, e, f, g⟩ := h.2.1 q h0 hq
      have h1 := hc q h0 hq
      rw [a, show pn (nI j) = j from nI_clamp (by omega)] at h1
      have := zBel_lt d f h1
      omega
  | n + 1, q, h0, hb => by
    by_cases hq : q = 1
    · exact Or.inl hq
    · obtain ⟨j, a, b, d, e, f, g⟩ := h.2.1 q h0 hq
      have h1 := hc q h0 hq
      rw [a, show pn (nI j) = j from nI_clamp (by omega)] at h1
      have := zBel_lt d f h1
      exact Or.inr ⟨(h.in h0).1, (h.in h0).2, h0, j, a, b, d, zAnc_of h hc f (by omega)⟩
theorem zWf.anc {σ : zS} (h : zWf σ) {q : Nat} (h0 : σ 0 q ≠ 0) : zAnc 39 σ q := by
  obtain ⟨c, hc⟩ := h.rank
  exact zAnc_of h hc h0 (zBel_39 h.z (h.in h0))
theorem zWf.par {σ : zS} (h : zWf σ) {k : Nat} (h0 : σ 0 k ≠ 0) (h1 : k ≠ 1) : ∃ j, σ 1 k = nI j ∧ 1 ≤ j ∧ j < 41 ∧ j ≠ k ∧ σ 0 j ≠ 0 ∧ σ 4 j = 0 := h.2.1 k h0 h1
theorem zWf.lv {σ : zS} (h : zWf σ) {p : Nat} (h0 : σ 0 p ≠ 0) (h1 : p ≠ 1) : zLv σ p := by
  obtain ⟨j, a, b, c, d, e, f⟩ := h.par h0 h1
  refine ⟨⟨h.z, fun k hk k0 k1 => ?_⟩, fun k hk k0 => (h.1 k k0).2.2.1, h.in h0, j, a, d, h.anc e⟩
  obtain ⟨j, a, b, c, d, e, f⟩ := h.par k0 k1
  exact ⟨j, b, c, a⟩
/-! a process that ends -/
theorem zDie_4 {σ : zS} {p k : Nat} {a b : Int32} : zDie σ p a b 4 k = if k = p then 1 else σ 4 k := by simp [zDie, zu]
theorem zDie_5 {σ : zS} {p k : Nat} {a b : Int32} : zDie σ p a b 5 k = if k = p then 0 else σ 5 k := by simp [zDie, zu]
theorem zDie_6 {σ : zS} {p k : Nat} {a b : Int32} : zDie σ p a b 6 k = if k = p then 0 else σ 6 k := by simp [zDie, zu]
theorem zDie_11 {σ : zS} {p k : Nat} {a b : Int32} : zDie σ p a b 11 k = if k = p then 0 else σ 11 k := by simp [zDie, zu]
theorem zDie_14 {σ : zS} {p k : Nat} {a b : Int32} : zDie σ p a b 14 k = if k = p then a else σ 14 k := by simp [zDie, zu]
theorem zWf.die {σ : zS} (h : zWf σ) {p : Nat} (h0 : σ 0 p ≠ 0) (h1 : p ≠ 1) {a b : Int32} :
    1 ≤ zHeir 40 (zDie σ p a b) (pn (σ 1 p)) ∧ zHeir 40 (zDie σ p a b) (pn (σ 1 p)) < 41 ∧ σ 0 (zHeir 40 (zDie σ p a b) (pn (σ 1 p))) ≠ 0 ∧ zDie σ p a b 4 (zHeir 40 (zDie σ p a b) (pn (σ 1 p))) = 0 ∧
    ∀ c : Nat → Nat, (∀ k, σ 0 k ≠ 0 → k ≠ 1 → c (pn (σ 1 k)) < c k) → c (zHeir 40 (zDie σ p a b) (pn (σ 1 p))) < c p := by
  obtain ⟨j, e1, e2, e3, e4, e5, e6⟩ := h.par h0 h1
  have ej : pn (σ 1 p) = j := by rw [e1]; exact nI_clamp (by omega)
  have d0 : zDie σ p a b 0 = σ 0 := zDie_off (by decide)
  have d1 : zDie σ p a b 1 = σ 1 := zDie_off (by decide)
  have ha : zAnc 39 (zDie σ p a b) j := (h.anc e5).ag d0.symm d1.symm
  have hl := zHeir_live (σ := zDie σ p a b) (by rw [d0]; exact h.x0) (by rw [zDie_4, if_neg (fun z => h1 z.symm)]; exact h.x.2.2.1) ha
  rw [d0] at hl
  rw [ej]
  refine ⟨(zHeir_in ha).1, (zHeir_in ha).2, hl.1, hl.2, fun c hc => ?_⟩
  have hr : c (zHeir 40 (zDie σ p a b) j) ≤ c j := zHeir_rank (σ := zDie σ p a b) (c := c) (fun k k0 k1 => by rw [d0] at k0; rw [d1]; exact hc k k0 k1) ha
  have := hc p h0 h1
  rw [ej] at this
  omega
theorem zWf.t2 {σ : zS} (h : zWf σ) {p : Nat} (h0 : σ 0 p ≠ 0) (h1 : p ≠ 1) {a b : Int32} (ha : a = 0 ∨ a = 1) : zWf (zT2 σ p a b) := by
  obtain ⟨g1, g2, g3, g4, g5⟩ := h.die h0 h1 (a := a) (b := b)
  unfold zT2
  generalize hh9 : zHeir 40 (zDie σ p a b) (pn (σ 1 p)) = hh at g1 g2 g3 g4 g5 ⊢
  have hpin := h.in h0
  have d0 : zDie σ p a b 0 = σ 0 := zDie_off (by decide)
  have d1 : zDie σ p a b 1 = σ 1 := zDie_off (by decide)
  have tf : ∀ f, f ≠ 1 → zHandN (zDie σ p a b) p hh 41 f = zDie σ p a b f := fun f hf => zHandN_off hf
  have tp : ∀ k, σ 0 k ≠ 0 → σ 1 k = nI p → zHandN (zDie σ p a b) p hh 41 1 k = nI hh := fun k k0 k1 => by
    unfold zHandN
    rw [if_pos ⟨rfl, (h.in k0).2, by rw [d0]; exact k0, by rw [d1]; exact k1⟩]
  have tn : ∀ k, ¬ σ 1 k = nI p → zHandN (zDie σ p a b) p hh 41 1 k = σ 1 k := fun k k1 => by
    unfold zHandN
    rw [if_neg (fun z => k1 (by rw [← d1]; exact z.2.2.2)), d1]
  have e0 := (tf 0 (by decide)).trans d0
  have e2 := (tf 2 (by decide)).trans (zDie_off (σ := σ) (p := p) (a := a) (b := b) (f := 2) (by decide))
  have e3 := (tf 3 (by decide)).trans (zDie_off (σ := σ) (p := p) (a := a) (b := b) (f := 3) (by decide))
  have e8 := (tf 8 (by decide)).trans (zDie_off (σ := σ) (p := p) (a := a) (b := b) (f := 8) (by decide))
  have e9 := (tf 9 (by decide)).trans (zDie_off (σ := σ) (p := p) (a := a) (b := b) (f := 9) (by decide))
  have e13 := (tf 13 (by decide)).trans (zDie_off (σ := σ) (p := p) (a := a) (b := b) (f := 13) (by decide))
  have e17 := (tf 17 (by decide)).trans (zDie_off (σ := σ) (p := p) (a := a) (b := b) (f := 17) (by decide))
  have e21 := (tf 21 (by decide)).trans (zDie_off (σ := σ) (p := p) (a := a) (b := b) (f := 21) (by decide))
  have e4 := tf 4 (by decide)
  have e5 := tf 5 (by decide)
  have e6 := tf 6 (by decide)
  have e11 := tf 11 (by decide)
  have e14 := tf 14 (by decide)
  have hne1 : ¬ σ 1 1 = nI p := fun z => znm1 hpin.2 (by rw [← z]; exact h.x.2.1)
  obtain ⟨c1, c2, c3, ⟨c, c4⟩, c5, c6, c7, c8⟩ := h
  have rk : ∀ k, σ 0 k ≠ 0 → k ≠ 1 → σ 1 k = nI p → c hh < c k := fun k k0 k1 kp => by
    have h1 := c4 k k0 k1
    rw [kp, show pn (nI p) = p from nI_clamp (by omega)] at h1
    exact Nat.lt_trans (g5 c c4) h1
  refine ⟨?_, ?_, ?_, ⟨c, ?_⟩, ?_, ?_, ?_, ?_⟩
  · rw [e0, e2, e3, e9]; exact c1
  · intro k k0 k1
    rw [e0] at k0
    rw [e0, e4]
    by_cases hk : σ 1 k = nI p
    · refine ⟨hh, tp k k0 hk, g1, g2, fun z => ?_, g3, g4⟩
      have := rk k k0 k1 hk
      rw [z] at this
      exact Nat.lt_irrefl _ this
    · obtain ⟨j, a1, a2, a3, a4, a5, a6⟩ := c2 k k0 k1
      refine ⟨j, by rw [tn k hk]; exact a1, a2, a3, a4, a5, ?_⟩
      rw [zDie_4, if_neg (fun z => hk (by rw [a1, z]))]
      exact a6
  · intro k k0 k4
    rw [e0] at k0
    rw [e4, zDie_4] at k4
    rw [e5, e6, e14, zDie_5, zDie_6, zDie_14]
    by_cases hk : k = p
    · rw [if_pos hk, if_pos hk, if_pos hk]; exact ⟨rfl, rfl, ha⟩
    · rw [if_neg hk] at k4
      rw [if_neg hk, if_neg hk, if_neg hk]; exact c3 k k0 k4
  · intro k k0 k1
    rw [e0] at k0
    by_cases hk : σ 1 k = nI p
    · rw [tp k k0 hk, show pn (nI hh) = hh from nI_clamp (by omega)]
      exact rk k k0 k1 hk
    · rw [tn k hk]; exact c4 k k0 k1
  · rw [e0, tn 1 hne1, e2, e3, e4, e5, e6, e13, zDie_4, zDie_5, zDie_6, if_neg (fun z => h1 z.symm), if_neg (fun z => h1 z.symm), if_neg (fun z => h1 z.symm)]
    exact c5
  · intro k
    rw [e0, e4, e5, e6, e8, e13, e17, zDie_4, zDie_5, zDie_6]
    by_cases hk : k = p
    · rw [if_pos hk, if_pos hk, if_pos hk]
      exact ⟨(c6 k).1, Or.inr rfl, Or.inl rfl, Or.inl rfl, (c6 k).2.2.2.2⟩
    · rw [if_neg hk, if_neg hk, if_neg hk]
      exact c6 k
  · intro k
    rw [e11, zDie_11]
    by_cases hk : k = p
    · rw [if_pos hk]; decide
    · rw [if_neg hk]; exact c7 k
  · rw [e21]; exact c8
theorem zWf.free {σ : zS} (h : zWf σ) : zWf (zFreeT σ) := by
  obtain ⟨c1, c2, c3, c4, c5, c6, c7, c8⟩ := h
  exact ⟨c1, c2, c3, c4, c5, c6, c7, Or.inl rfl⟩
theorem zWf.t3 {σ : zS} (h : zWf σ) {p : Nat} (h0 : σ 0 p ≠ 0) (h1 : p ≠ 1) {a b : Int32} (ha : a = 0 ∨ a = 1) : zWf (zT3 σ p a b) := by
  by_cases ht : zTm σ p
  · rw [zT3_if ht]; exact (h.t2 h0 h1 ha).free
  · rw [zT3_no ht]; exact h.t2 h0 h1 ha
/-! steps -/
def zMo (σ τ : zS) : Prop := (∀ k, τ 0 k ≠ 0 → σ 0 k ≠ 0) ∧ ∀ k, τ 0 k ≠ 0 → σ 4 k ≠ 0 → τ 4 k ≠ 0
theorem zMo.rf {σ : zS} : zMo σ σ := ⟨fun _ h => h, fun _ _ h => h⟩
theorem zMo.tr {a b c : zS} (h1 : zMo a b) (h2 : zMo b c) : zMo a c := ⟨fun k h => h1.1 k (h2.1 k h), fun k h h4 => h2.2 k h (h1.2 k (h2.1 k h) h4)⟩
theorem zMo.of {σ τ : zS} (h0 : τ 0 = σ 0) (h4 : τ 4 = σ 4) : zMo σ τ := ⟨fun k h => by rw [h0] at h; exact h, fun k _ h => by rw [h4]; exact h⟩
def zEvK (σ : zS) (e : zEv) : Prop := zEvOk e ∧ (e.1 = 9 → σ 0 e.2 ≠ 0 → σ 4 e.2 ≠ 0)
theorem zEvK.mo {σ τ : zS} {e : zEv} (h : zEvK σ e) (hm : zMo σ τ) : zEvK τ e := ⟨h.1, fun h9 h0 => hm.2 _ h0 (h.2 h9 (hm.1 _ h0))⟩
theorem zEvK.sig {σ : zS} {s k : Nat} (hs : s < 9) (hk : 1 ≤ k ∧ k < 41) : zEvK σ (s, k) := ⟨⟨by show s ≤ 10; omega, hk.1, hk.2, fun z => absurd (show 9 ≤ s from z) (by omega)⟩, fun z => absurd (show s = 9 from z) (by omega)⟩
def zSt (x y : zS × List zEv) : Prop := zWf y.1 ∧ zMo x.1 y.1 ∧ ∃ q' : List zEv, y.2 = x.2 ++ q' ∧ ∀ e ∈ q', zEvK y.1 e
theorem zSt.rf {x : zS × List zEv} (h : zWf x.1) : zSt x x := ⟨h, zMo.rf, [], by rw [List.append_nil], fun e he => absurd he List.not_mem_nil⟩
theorem zSt.tr {x y z : zS × List zEv} (h1 : zSt x y) (h2 : zSt y z) : zSt x z := by
  obtain ⟨a1, a2, q1, a3, a4⟩ := h1
  obtain ⟨b1, b2, q2, b3, b4⟩ := h2
  refine ⟨b1, a2.tr b2, q1 ++ q2, by rw [b3, a3, List.append_assoc], fun e he => ?_⟩
  rcases List.mem_append.mp he with h | h
  · exact (a4 e h).mo b2
  · exact b4 e h
theorem zSt.one {x : zS × List zEv} {τ : zS} (h : zWf τ) (hm : zMo x.1 τ) : zSt x (τ, x.2) := ⟨h, hm, [], by rw [List.append_nil], fun e he => absurd he List.not_mem_nil⟩
theorem zSends_ev {σ τ : zS} {g : Int32} {s : Nat} (h : ∀ k, σ 0 k ≠ 0 → 1 ≤ k ∧ k < 41) (hs : s < 9) : ∀ e ∈ zSends σ g s 41, zEvK τ e := by
  intro e he
  obtain ⟨k, hk, rfl⟩ := List.mem_map.mp he
  have hm := of_decide_eq_true (List.mem_filter.mp hk).2
  exact zEvK.sig hs (h k hm.1)
theorem zTq_ev {σ : zS} (h : zWf σ) {p : Nat} (h0 : σ 0 p ≠ 0) (h1 : p ≠ 1) {a b : Int32} : ∀ e ∈ zTq σ p a b, zEvK (zT3 σ p a b) e := by
  have hpin := h.in h0
  have i2 : ∀ k, zT2 σ p a b 0 k ≠ 0 → 1 ≤ k ∧ k < 41 := fun k hk => h.in (by rw [zT2_off (by decide)] at hk; exact hk)
  have i3 : ∀ k, zT3 σ p a b 0 k ≠ 0 → 1 ≤ k ∧ k < 41 := fun k hk => i2 k (by rw [zT3_off (by decide)] at hk; exact hk)
  have f4 : ∀ k, σ 4 k ≠ 0 → zT3 σ p a b 4 k ≠ 0 := fun k hk => by
    rw [zT3_off (by decide)]
    unfold zT2
    rw [zHandN_off (by decide), zDie_4]
    by_cases hkp : k = p
    · rw [if_pos hkp]; decide
    · rw [if_neg hkp]; exact hk
  intro e he
  unfold zTq at he
  rcases List.mem_append.mp he with he | he
  · unfold zTq1 at he
    split at he
    · exact zSends_ev i2 (by decide) e he
    · exact absurd he List.not_mem_nil
  rcases List.mem_append.mp he with he | he
  · obtain ⟨k, hk, rfl⟩ := List.mem_map.mp he
    have hm := of_decide_eq_true (List.mem_filter.mp hk).2
    have hk1 := h.in hm.1
    exact ⟨⟨by show 9 ≤ 10; decide, hk1.1, hk1.2, fun _ => h.z1 hm.2.2⟩, fun _ _ => f4 k hm.2.2⟩
  rcases List.mem_append.mp he with he | he
  · obtain ⟨g, hg, he⟩ := List.mem_flatMap.mp he
    split at he
    · rcases List.mem_append.mp he with he | he
      · exact zSends_ev i3 (by decide) e he
      · exact zSends_ev i3 (by decide) e he
    · exact absurd he List.not_mem_nil
  · rw [List.mem_singleton.mp he]
    exact ⟨⟨by show 9 ≤ 10; decide, hpin.1, hpin.2, fun _ => h1⟩, fun _ _ => by rw [zT3_4]; decide⟩
theorem zT3_0 {σ : zS} {p : Nat} {a b : Int32} : zT3 σ p a b 0 = σ 0 := by rw [zT3_off (by decide), zT2_off (by decide)]
theorem zT3_44 {σ : zS} {p k : Nat} {a b : Int32} : zT3 σ p a b 4 k = if k = p then 1 else σ 4 k := by
  rw [zT3_off (by decide)]
  unfold zT2
  rw [zHandN_off (by decide), zDie_4]
theorem zSt.term {x : zS × List zEv} {p : Nat} {a b : Int32} (h : zWf x.1) (h0 : x.1 0 p ≠ 0) (h1 : p ≠ 1) (ha : a = 0 ∨ a = 1) : zSt x (zTerm x p a b) := by
  refine ⟨h.t3 h0 h1 ha, ⟨fun k hk => ?_, fun k hk h4 => ?_⟩, zTq x.1 p a b, rfl, zTq_ev h h0 h1⟩
  · have : zT3 x.1 p a b 0 k ≠ 0 := hk
    rw [zT3_0] at this
    exact this
  · show zT3 x.1 p a b 4 k ≠ 0
    rw [zT3_44]
    by_cases hkp : k = p
    · rw [if_pos hkp]; decide
    · rw [if_neg hkp]; exact h4
theorem zSt.stop {x : zS × List zEv} {p s : Nat} (h : zWf x.1) (h0 : x.1 0 p ≠ 0) (h1 : p ≠ 1) (h4 : x.1 4 p = 0) : zSt x (zStop x p s) := by
  have hb := h.b
  refine ⟨h.own rfl rfl rfl rfl rfl rfl rfl rfl (fun k k0 k4 => ?_) ?_ (fun k => ?_) h.2.2.2.2.2.2.1, zMo.of rfl rfl, [(10, p)], rfl, fun e he => ?_⟩
  · have hk : k ≠ p := fun z => k4 (by rw [z]; exact h4)
    have := h.2.2.1 k k0 k4
    refine ⟨this.1, ?_, this.2.2⟩
    show zu x.1 5 p 1 5 k = 0
    rw [zu_iff, if_neg hk]
    exact this.2.1
  · refine ⟨?_, h.i.2⟩
    show zu x.1 5 p 1 5 1 = 0
    rw [zu_iff, if_neg (fun z => h1 z.symm)]
    exact h.i.1
  · refine ⟨?_, (hb k).2.1, (hb k).2.2.1, ?_⟩
    · show zu x.1 5 p 1 5 k = 0 ∨ zu x.1 5 p 1 5 k = 1
      rw [zu_iff]
      split
      · exact Or.inr rfl
      · exact (hb k).1
    · show zu x.1 17 p 1 17 k = 0 ∨ zu x.1 17 p 1 17 k = 1
      rw [zu_iff]
      split
      · exact Or.inr rfl
      · exact (hb k).2.2.2
  · rw [List.mem_singleton.mp he]
    exact ⟨⟨by show 10 ≤ 10; decide, (h.in h0).1, (h.in h0).2, fun _ => h1⟩, fun z => absurd (show 10 = 9 from z) (by decide)⟩
theorem zWf.ends {σ : zS} (h : zWf σ) {p : Nat} {r c v : Int32} : zWf (zEnds σ p r c v) := by
  have hb := h.b
  have e6 : ∀ k, zEnds σ p r c v 6 k = if k = p then 0 else σ 6 k := fun k => by simp [zEnds, zu]
  refine h.own rfl rfl rfl rfl rfl rfl rfl rfl (fun k k0 k4 => ?_) ?_ (fun k => ?_) h.2.2.2.2.2.2.1
  · have := h.2.2.1 k k0 k4
    refine ⟨?_, this.2⟩
    rw [e6]
    split
    · rfl
    · exact this.1
  · refine ⟨h.i.1, ?_⟩
    rw [e6]
    split
    · rfl
    · exact h.i.2
  · refine ⟨(hb k).1, ?_, (hb k).2.2.1, (hb k).2.2.2⟩
    rw [e6]
    split
    · exact Or.inl rfl
    · exact (hb k).2.1
theorem zWf.p11 {σ : zS} (h : zWf σ) {p : Nat} {v : Int32} (hv : v &&& 511 = v) : zWf (zu σ 11 p v) := by
  refine h.own rfl rfl rfl rfl rfl rfl rfl rfl (fun k k0 k4 => h.2.2.1 k k0 k4) h.i h.b (fun k => ?_)
  rw [zu_iff]
  split
  · exact hv
  · exact h.2.2.2.2.2.2.1 k
theorem zWf.p12 {σ : zS} (h : zWf σ) {p : Nat} {v : Int32} : zWf (zu σ 12 p v) := h.own rfl rfl rfl rfl rfl rfl rfl rfl (fun k k0 k4 => h.2.2.1 k k0 k4) h.i h.b h.2.2.2.2.2.2.1
theorem zWf.p17 {σ : zS} (h : zWf σ) {p : Nat} {v : Int32} (hv : v = 0 ∨ v = 1) : zWf (zu σ 17 p v) := by
  have hb := h.b
  refine h.own rfl rfl rfl rfl rfl rfl rfl rfl (fun k k0 k4 => h.2.2.1 k k0 k4) h.i (fun k => ⟨(hb k).1, (hb k).2.1, (hb k).2.2.1, ?_⟩) h.2.2.2.2.2.2.1
  rw [zu_iff]
  split
  · exact hv
  · exact (hb k).2.2.2
theorem zWf.p5 {σ : zS} (h : zWf σ) {p : Nat} : zWf (zu σ 5 p 0) := by
  have hb := h.b
  refine h.own rfl rfl rfl rfl rfl rfl rfl rfl (fun k k0 k4 => ?_) ⟨?_, h.i.2⟩ (fun k => ⟨?_, (hb k).2⟩) h.2.2.2.2.2.2.1
  · have := h.2.2.1 k k0 k4
    refine ⟨this.1, ?_, this.2.2⟩
    rw [zu_iff]
    split
    · rfl
    · exact this.2.1
  · rw [zu_iff]
    split
    · rfl
    · exact h.i.1
  · rw [zu_iff]
    split
    · exact Or.inl rfl
    · exact (hb k).1
theorem zWf.catch {σ : zS} (h : zWf σ) {p : Nat} : zWf (zCatch σ p) := by
  unfold zCatch
  split
  · exact h.p12.ends
  · exact h.p12
theorem zWf.gone {σ : zS} (h : zWf σ) {p : Nat} (h4 : σ 4 p ≠ 0) : zWf (zu σ 0 p 0) := by
  have hp1 := h.z1 h4
  have hk : ∀ k, zu σ 0 p 0 0 k ≠ 0 → k ≠ p ∧ σ 0 k ≠ 0 := fun k z => by
    rw [zu_iff] at z
    by_cases hkp : k = p
    · rw [if_pos hkp] at z; exact absurd rfl z
    · rw [if_neg hkp] at z; exact ⟨hkp, z⟩
  obtain ⟨c1, c2, c3, ⟨c, c4⟩, c5, c6, c7, c8⟩ := h
  refine ⟨fun k z => c1 k (hk k z).2, fun k z k1 => ?_, fun k z => c3 k (hk k z).2, ⟨c, fun k z => c4 k (hk k z).2⟩, ?_, fun k => ⟨?_, (c6 k).2⟩, c7, c8⟩
  · obtain ⟨j, a1, a2, a3, a4, a5, a6⟩ := c2 k (hk k z).2 k1
    refine ⟨j, a1, a2, a3, a4, ?_, a6⟩
    rw [zu_iff, if_neg (fun y => h4 (by rw [← y]; exact a6))]
    exact a5
  · refine ⟨?_, c5.2⟩
    rw [zu_iff, if_neg (fun y => hp1 y.symm)]
    exact c5.1
  · rw [zu_iff]
    split
    · exact Or.inl rfl
    · exact (c6 k).1
theorem zMo.gone {σ τ : zS} {p : Nat} (h : zMo σ τ) : zMo σ (zu τ 0 p 0) := by
  have hk : ∀ k, zu τ 0 p 0 0 k ≠ 0 → τ 0 k ≠ 0 := fun k z => by
    rw [zu_iff] at z
    by_cases hkp : k = p
    · rw [if_pos hkp] at z; exact absurd rfl z
    · rw [if_neg hkp] at z; exact z
  exact ⟨fun k z => h.1 k (hk k z), fun k z h4 => h.2 k (hk k z) h4⟩
theorem zBest_at {σ : zS} {p n k : Nat} (h : zBest σ p n = some k) : zRep σ p k ∧ k < n := by
  unfold zBest at h
  have h1 := List.find?_some h
  have h2 := List.mem_of_find?_eq_some h
  exact ⟨of_decide_eq_true h1, List.mem_range.mp h2⟩
theorem zCheck_cases (σ : zS) (p : Nat) : zCheck σ p = σ ∨ zCheck σ p = zEnds σ p 4 (-1) (-1) ∨ (∃ k, k < 41 ∧ zRep σ p k ∧ σ 4 k ≠ 0 ∧ zCheck σ p = zu (zEnds σ p (σ 14 k) (nI k) (σ 15 k)) 0 k 0) ∨ ∃ k, k < 41 ∧ zRep σ p k ∧ σ 4 k = 0 ∧ zCheck σ p = zu (zEnds σ p 2 (nI k) (σ 16 k)) 17 k 0 := by
  unfold zCheck
  by_cases hi : σ 6 p = 0 ∨ σ 5 p ≠ 0
  · rw [if_pos hi]; exact Or.inl rfl
  · rw [if_neg hi]
    cases hb : zBest σ p 41 with
    | none =>
      show (if ∀ k, k < 41 → ¬ zKid σ p k then zEnds σ p 4 (-1) (-1) else σ) = σ ∨ _
      by_cases hk : ∀ k, k < 41 → ¬ zKid σ p k
      · rw [if_pos hk]; exact Or.inr (Or.inl rfl)
      · rw [if_neg hk]; exact Or.inl rfl
    | some k =>
      obtain ⟨h1, h2⟩ := zBest_at hb
      by_cases h4 : σ 4 k ≠ 0
      · exact Or.inr (Or.inr (Or.inl ⟨k, h2, h1, h4, if_pos h4⟩))
      · exact Or.inr (Or.inr (Or.inr ⟨k, h2, h1, Classical.not_not.mp h4, if_neg h4⟩))
theorem zSt.check {x : zS × List zEv} {p : Nat} (h : zWf x.1) : zSt x (zCheck x.1 p, x.2) := by
  rcases zCheck_cases x.1 p with e | e | ⟨k, hk, hr, h4, e⟩ | ⟨k, hk, hr, h4, e⟩ <;> rw [e]
  · exact zSt.one h zMo.rf
  · exact zSt.one h.ends (zMo.of rfl rfl)
  · exact zSt.one (h.ends.gone h4) (zMo.of (σ := x.1) (τ := zEnds x.1 p (x.1 14 k) (nI k) (x.1 15 k)) rfl rfl).gone
  · exact zSt.one (h.ends.p17 (Or.inl rfl)) (zMo.of rfl rfl)
theorem zSt.eff {x : zS × List zEv} {p s : Nat} (h : zWf x.1) (h0 : x.1 0 p ≠ 0) (h1 : p ≠ 1) (h4 : x.1 4 p = 0) : zSt x (zEff x p s) := by
  rcases zEff_cases x p s with e | e | e | e <;> rw [e]
  · exact zSt.one h.catch (zMo.of (zCatch_off (by decide)) (zCatch_off (by decide)))
  · exact zSt.rf h
  · exact zSt.stop h h0 h1 h4
  · exact zSt.term h h0 h1 (Or.inr rfl)
theorem zDstep_0 {x : zS × List zEv} {p s : Nat} : (zDstep p x s).1 0 = x.1 0 := by
  unfold zDstep
  split
  · rw [zEff_0 _ p s 0 (Or.inl rfl)]; rfl
  · rfl
theorem zSt.dstep {x : zS × List zEv} {p s : Nat} (h : zWf x.1) (h0 : x.1 0 p ≠ 0) (h1 : p ≠ 1) (hs : s < 32) : zSt x (zDstep p x s) := by
  by_cases hd : x.1 4 p = 0 ∧ x.1 5 p = 0 ∧ zOpen x.1 p &&& zSh s ≠ 0
  · rw [zDstep_yes hd]
    have h9 : zWf (zu x.1 11 p (zClr (x.1 11 p) s)) := h.p11 (zClr_511 hs (h.2.2.2.2.2.2.1 p))
    exact (zSt.one (x := x) h9 (zMo.of rfl rfl)).tr (zSt.eff (x := (zu x.1 11 p (zClr (x.1 11 p) s), x.2)) h9 h0 h1 hd.1)
  · rw [zDstep_no hd]
    exact zSt.rf h
theorem zDfold_succ {x : zS × List zEv} {p n : Nat} : zDfold p x (n + 1) = zDstep p (zDfold p x n) n := by
  unfold zDfold
  rw [List.range_succ, List.foldl_append]
  rfl
theorem zDfold_0f {x : zS × List zEv} {p : Nat} : ∀ {n : Nat}, (zDfold p x n).1 0 = x.1 0
  | 0 => rfl
  | n + 1 => by rw [zDfold_succ, zDstep_0, zDfold_0f]
theorem zSt.dfold {x : zS × List zEv} {p : Nat} (h : zWf x.1) (h0 : x.1 0 p ≠ 0) (h1 : p ≠ 1) : ∀ {n : Nat}, n ≤ 9 → zSt x (zDfold p x n)
  | 0, _ => zSt.rf h
  | n + 1, hn => by
    have ih := zSt.dfold h h0 h1 (n := n) (by omega)
    rw [zDfold_succ]
    exact ih.tr (zSt.dstep ih.1 (by rw [zDfold_0f]; exact h0) h1 (by omega))
theorem zSt.del {x : zS × List zEv} {p : Nat} (h : zWf x.1) (h0 : x.1 0 p ≠ 0) (h1 : p ≠ 1) : zSt x (zDel x p) := by
  have h9 := zSt.dfold h h0 h1 (n := 9) (Nat.le_refl _)
  exact h9.tr (zSt.check (x := zDfold p x 9) h9.1)
theorem zWf.cont {σ : zS} (h : zWf σ) {p s : Nat} : zWf (zCont σ p s) := by
  unfold zCont
  split
  · refine ((h.p11 (zClr_511 (by decide) (h.2.2.2.2.2.2.1 p))).p17 ?_).p5
    by_cases hz : σ 17 p ≠ 0 ∧ σ 5 p = 0
    · exact Or.inr (zb_t hz)
    · exact Or.inl (zb_f hz)
  · split
    · exact h.p11 (zClr_511 (by decide) (h.2.2.2.2.2.2.1 p))
    · exact h
theorem zSt.cont {x : zS × List zEv} {p s : Nat} (h : zWf x.1) : zSt x (zCont x.1 p s, x.2) := zSt.one h.cont (zMo.of (zCont_off (by decide)) (zCont_off (by decide)))
theorem zOr_511 {x : Int32} {s : Nat} (hs : s < 9) (h : x &&& 511 = x) : (x ||| zSh s) &&& 511 = x ||| zSh s := zbit_small (fun t ht hb => by
  rw [zbit_or, zbit_sh (by omega) ht, Bool.or_eq_true, decide_eq_true_eq] at hb
  rcases hb with hb | hb
  · exact zbit_9 h ht hb
  · omega)
theorem zSt.take {x : zS × List zEv} {p s : Nat} (h : zWf x.1) (h0 : x.1 0 p ≠ 0) (h1 : p ≠ 1) (h4 : x.1 4 p = 0) (hs : s < 9) : zSt x (zTake x p s) := by
  rcases zTake_cases x p s with e | e | e | e <;> rw [e]
  · exact zSt.term h h0 h1 (Or.inr rfl)
  · exact zSt.stop h h0 h1 h4
  · exact zSt.rf h
  · exact zSt.one (h.p11 (zOr_511 hs (h.2.2.2.2.2.2.1 p))) (zMo.of rfl rfl)
theorem zSt.comes {x : zS × List zEv} {p s : Nat} (h : zWf x.1) (hs : s < 9) : zSt x (zComes x p s) := by
  by_cases hn : x.1 0 p = 0 ∨ x.1 4 p ≠ 0 ∨ p = 1
  · rw [zComes_no hn]; exact zSt.rf h
  · rw [zComes_yes hn]
    have h0 : x.1 0 p ≠ 0 := fun z => hn (Or.inl z)
    have h4 : x.1 4 p = 0 := Classical.not_not.mp (fun z => hn (Or.inr (Or.inl z)))
    have h1 : p ≠ 1 := fun z => hn (Or.inr (Or.inr z))
    have a1 := zSt.cont (x := x) (p := p) (s := s) h
    have e0 : zCont x.1 p s 0 = x.1 0 := zCont_off (by decide)
    have e4 : zCont x.1 p s 4 = x.1 4 := zCont_off (by decide)
    have a2 := zSt.take (x := (zCont x.1 p s, x.2)) (p := p) (s := s) a1.1 (by show zCont x.1 p s 0 p ≠ 0; rw [e0]; exact h0) h1 (by show zCont x.1 p s 4 p = 0; rw [e4]; exact h4) hs
    have a3 := zSt.del (x := zTake (zCont x.1 p s, x.2) p s) (p := p) a2.1 (by rw [zTake_0 (Or.inl rfl)]; show zCont x.1 p s 0 p ≠ 0; rw [e0]; exact h0) h1
    exact (a1.tr a2).tr a3
theorem zSt.tell {x : zS × List zEv} {j : Nat} (h : zWf x.1) (hj : 1 ≤ j ∧ j < 41) : zSt x (zTell x j) := by
  by_cases h1 : j = 1
  · rw [zTell_1 h1]; exact zSt.rf h
  · rw [zTell_n h1]
    have a1 := zSt.check (x := x) (p := j) h
    refine ⟨a1.1, a1.2.1, [(4, j)], rfl, fun e he => ?_⟩
    rw [List.mem_singleton.mp he]
    exact zEvK.sig (by decide) hj
theorem zSt.over {x : zS × List zEv} {p : Nat} (h : zWf x.1) (h4 : x.1 0 p ≠ 0 → x.1 4 p ≠ 0) : zSt x (zOver x p) := by
  by_cases h0 : x.1 0 p = 0
  · rw [zOver_no h0]; exact zSt.rf h
  · have h4 := h4 h0
    obtain ⟨j, a1, a2, a3, a4, a5, a6⟩ := h.par h0 (h.z1 h4)
    rw [zOver_yes h0 (show pn (x.1 1 p) = j by rw [a1]; exact nI_clamp (by omega))]
    split
    · exact (zSt.one (x := x) (h.gone h4) zMo.rf.gone).tr (zSt.tell (x := (zu x.1 0 p 0, x.2)) (h.gone h4) ⟨a2, a3⟩)
    · exact zSt.tell (x := (x.1, x.2)) h ⟨a2, a3⟩
theorem zSt.stands {x : zS × List zEv} {p : Nat} (h : zWf x.1) (h1 : p ≠ 1) : zSt x (zStands x p) := by
  by_cases hs : x.1 0 p ≠ 0 ∧ x.1 5 p ≠ 0
  · rw [zStands_yes hs]
    obtain ⟨j, a1, a2, a3, a4, a5, a6⟩ := h.par hs.1 h1
    rw [show pn (x.1 1 p) = j by rw [a1]; exact nI_clamp (by omega)]
    exact zSt.tell h ⟨a2, a3⟩
  · rw [zStands_no hs]; exact zSt.rf h
theorem zSt.event {x : zS × List zEv} {e : zEv} (h : zWf x.1) (he : zEvK x.1 e) : zSt x (zEvent x e) := by
  by_cases h9 : e.1 = 9
  · rw [zEvent_9 h9]; exact zSt.over h (he.2 h9)
  · by_cases h10 : e.1 = 10
    · rw [zEvent_10 h10]; exact zSt.stands h (he.1.2.2.2 (by omega))
    · have : e.1 < 9 := by have := he.1.1; omega
      rw [zEvent_s this]
      exact zSt.comes h this
def zGood (σ : zS) (q : List zEv) : Prop := zWf σ ∧ ∀ e ∈ q, zEvK σ e
theorem zSt.good {σ : zS} {q : List zEv} {y : zS × List zEv} (h : zSt (σ, q) y) (hq : ∀ e ∈ q, zEvK σ e) : zGood y.1 y.2 := by
  obtain ⟨a1, a2, q', a3, a4⟩ := h
  refine ⟨a1, fun e he => ?_⟩
  rw [a3] at he
  rcases List.mem_append.mp he with z | z
  · exact (hq e z).mo a2
  · exact a4 e z
theorem zGood.event {σ : zS} {e : zEv} {q : List zEv} (h : zGood σ (e :: q)) : zGood (zEvent (σ, q) e).1 (zEvent (σ, q) e).2 :=
  (zSt.event (x := (σ, q)) h.1 (h.2 e List.mem_cons_self)).good (fun e' he => h.2 e' (List.mem_cons_of_mem _ he))
