/-! rows above 22 are the reference's own: what is told of the others doesn't hang on them -/
theorem zKid_ag {r s : zS} (h : zAg r s) {p k : Nat} : zKid r p k ↔ zKid s p k := by
  unfold zKid; rw [h 0 (by decide), h 1 (by decide), h 7 (by decide)]
theorem zRep_ag {r s : zS} (h : zAg r s) {p k : Nat} : zRep r p k ↔ zRep s p k := by
  unfold zRep; rw [zKid_ag h, h 4 (by decide), h 8 (by decide), h 5 (by decide), h 17 (by decide)]
theorem zBest_ag {r s : zS} (h : zAg r s) {p n : Nat} : zBest r p n = zBest s p n := by
  unfold zBest
  congr 1
  funext k
  exact decide_eq_decide.mpr (zRep_ag h)
theorem zEnds_ag {r s : zS} (h : zAg r s) {p : Nat} {a b c : Int32} : zAg (zEnds r p a b c) (zEnds s p a b c) := zAg_zu (zAg_zu (zAg_zu (zAg_zu h)))
theorem zCheck_ag {r s : zS} (h : zAg r s) {p : Nat} : zAg (zCheck r p) (zCheck s p) := by
  by_cases hi : r 6 p = 0 ∨ r 5 p ≠ 0
  · have hi2 : s 6 p = 0 ∨ s 5 p ≠ 0 := by rw [← h 6 (by decide), ← h 5 (by decide)]; exact hi
    rw [zCheck_idle hi, zCheck_idle hi2]
    exact h
  · have hi2 : ¬ (s 6 p = 0 ∨ s 5 p ≠ 0) := by rw [← h 6 (by decide), ← h 5 (by decide)]; exact hi
    unfold zCheck
    rw [if_neg hi, if_neg hi2, zBest_ag h]
    cases zBest s p 41 with
    | none =>
      show zAg (if ∀ k, k < 41 → ¬ zKid r p k then zEnds r p 4 (-1) (-1) else r) (if ∀ k, k < 41 → ¬ zKid s p k then zEnds s p 4 (-1) (-1) else s)
      have e : (∀ k, k < 41 → ¬ zKid r p k) ↔ ∀ k, k < 41 → ¬ zKid s p k := by simp only [zKid_ag h]
      by_cases hk : ∀ k, k < 41 → ¬ zKid r p k
      · rw [if_pos hk, if_pos (e.mp hk)]; exact zEnds_ag h
      · rw [if_neg hk, if_neg (fun q => hk (e.mpr q))]; exact h
    | some k =>
      show zAg (if r 4 k ≠ 0 then zu (zEnds r p (r 14 k) (nI k) (r 15 k)) 0 k 0 else zu (zEnds r p 2 (nI k) (r 16 k)) 17 k 0) (if s 4 k ≠ 0 then zu (zEnds s p (s 14 k) (nI k) (s 15 k)) 0 k 0 else zu (zEnds s p 2 (nI k) (s 16 k)) 17 k 0)
      rw [h 4 (by decide), h 14 (by decide), h 15 (by decide), h 16 (by decide)]
      split
      · exact zAg_zu (zEnds_ag h)
      · exact zAg_zu (zEnds_ag h)
theorem zDie_ag {r s : zS} (h : zAg r s) {p : Nat} {a b : Int32} : zAg (zDie r p a b) (zDie s p a b) := zAg_zu (zAg_zu (zAg_zu (zAg_zu (zAg_zu (zAg_zu h)))))
theorem zHandN_ag {r s : zS} (h : zAg r s) {p k n : Nat} : zAg (zHandN r p k n) (zHandN s p k n) := by
  intro f hf
  funext j
  unfold zHandN
  rw [h 0 (by decide), h 1 (by decide), h f hf]
theorem zT2_ag {r s : zS} (h : zAg r s) {p : Nat} {a b : Int32} : zAg (zT2 r p a b) (zT2 s p a b) := by
  unfold zT2
  have hd := zDie_ag h (p := p) (a := a) (b := b)
  rw [zHeir_ag (hd 1 (by decide)) (hd 4 (by decide)) (hd 13 (by decide)), h 1 (by decide)]
  exact zHandN_ag hd
theorem zTm_ag {r s : zS} (h : zAg r s) {p : Nat} : zTm r p ↔ zTm s p := by unfold zTm; rw [h 3 (by decide), h 21 (by decide)]
theorem zT3_ag {r s : zS} (h : zAg r s) {p : Nat} {a b : Int32} : zAg (zT3 r p a b) (zT3 s p a b) := by
  by_cases ht : zTm r p
  · rw [zT3_if ht, zT3_if ((zTm_ag h).mp ht)]
    exact zAg_zu (zAg_zu (zT2_ag h))
  · rw [zT3_no ht, zT3_no (fun q => ht ((zTm_ag h).mpr q))]
    exact zT2_ag h
theorem zTq_ag {r s : zS} (h : zAg r s) {p : Nat} {a b : Int32} : zTq r p a b = zTq s p a b := by
  unfold zTq
  have e1 : zTq1 r p a b = zTq1 s p a b := by
    by_cases ht : zTm r p
    · rw [zTq1_if ht, zTq1_if ((zTm_ag h).mp ht), zSends_ag (zT2_ag h), h 22 (by decide)]
    · rw [zTq1_no ht, zTq1_no (fun q => ht ((zTm_ag h).mpr q))]
  have e2 : zTq2 r p 41 = zTq2 s p 41 := by
    unfold zTq2
    congr 2
    funext k
    exact decide_eq_decide.mpr (by unfold zWasZ; rw [h 0 (by decide), h 1 (by decide), h 4 (by decide)])
  have e3 : zTq3 r (zT3 r p a b) 41 = zTq3 s (zT3 s p a b) 41 := by
    unfold zTq3
    congr 1
    funext g
    have e4 : zNewO r (zT3 r p a b) g ↔ zNewO s (zT3 s p a b) g := by
      unfold zNewO
      rw [zOrph_ag h, zOrph_ag (zT3_ag h), zStopd_ag (zT3_ag h)]
    by_cases hn : zNewO r (zT3 r p a b) g
    · rw [if_pos hn, if_pos (e4.mp hn), zSends_ag (zT3_ag h), zSends_ag (zT3_ag h)]
    · rw [if_neg hn, if_neg (fun q => hn (e4.mpr q))]
  rw [e1, e2, e3]
/-- a process that may end: what the reference needs for it -/
def zLv (σ : zS) (p : Nat) : Prop := zWm σ ∧ (∀ k, k < 41 → σ 0 k ≠ 0 → ∃ g, σ 2 k = nI g ∧ 1 ≤ g ∧ g < 41) ∧ (1 ≤ p ∧ p < 41) ∧ ∃ j, σ 1 p = nI j ∧ j ≠ p ∧ zAnc 39 σ j
theorem zLv.ag {σ τ : zS} {p : Nat} (h : zLv σ p) (h0 : τ 0 = σ 0) (h1 : τ 1 = σ 1) (h2 : τ 2 = σ 2) : zLv τ p := by
  obtain ⟨a1, a2, a3, j, a4, a5, a6⟩ := h
  refine ⟨?_, ?_, a3, j, by rw [h1]; exact a4, a5, a6.ag h0.symm h1.symm⟩
  · unfold zWm; rw [h0, h1]; exact a1
  · rw [h0, h2]; exact a2
theorem zCatch_off {σ : zS} {p f : Nat} (hf : f ≠ 6 ∧ f ≠ 18 ∧ f ≠ 19 ∧ f ≠ 20 ∧ f ≠ 12) : zCatch σ p f = σ f := by
  unfold zCatch
  split
  · rw [zEnds_off ⟨hf.1, hf.2.1, hf.2.2.1, hf.2.2.2.1⟩, zu_off hf.2.2.2.2]
  · exact zu_off hf.2.2.2.2
theorem zEff_c {x : zS × List zEv} {p s : Nat} (h : zAct x.1 p s = 2) : zEff x p s = (zCatch x.1 p, x.2) := if_pos h
theorem zEff_o {x : zS × List zEv} {p s : Nat} (h : ¬ zAct x.1 p s = 2) (h2 : zAct x.1 p s = 0 ∧ s = 6) (h3 : zOrph x.1 (x.1 2 p)) : zEff x p s = x := by
  unfold zEff
  rw [if_neg h, if_pos h2, if_pos h3]
theorem zEff_s {x : zS × List zEv} {p s : Nat} (h : ¬ zAct x.1 p s = 2) (h2 : zAct x.1 p s = 0 ∧ s = 6) (h3 : ¬ zOrph x.1 (x.1 2 p)) : zEff x p s = zStop x p 6 := by
  unfold zEff
  rw [if_neg h, if_pos h2, if_neg h3]
theorem zEff_t {x : zS × List zEv} {p s : Nat} (h2 : zAct x.1 p s = 0) (h3 : s ≠ 6) : zEff x p s = zTerm x p 1 (nI s) := by
  unfold zEff
  rw [if_neg (by rw [h2]; decide), if_neg (fun q => h3 q.2), if_pos h2]
theorem zEff_i {x : zS × List zEv} {p s : Nat} (h : ¬ zAct x.1 p s = 2) (h2 : ¬ zAct x.1 p s = 0) : zEff x p s = x := by
  unfold zEff
  rw [if_neg h, if_neg (fun q => h2 q.1), if_neg h2]
theorem zEff_cases (x : zS × List zEv) (p s : Nat) : zEff x p s = (zCatch x.1 p, x.2) ∨ zEff x p s = x ∨ zEff x p s = zStop x p 6 ∨ zEff x p s = zTerm x p 1 (nI s) := by
  by_cases h : zAct x.1 p s = 2
  · exact Or.inl (zEff_c h)
  · by_cases h2 : zAct x.1 p s = 0
    · by_cases h6 : s = 6
      · by_cases ho : zOrph x.1 (x.1 2 p)
        · exact Or.inr (Or.inl (zEff_o h ⟨h2, h6⟩ ho))
        · exact Or.inr (Or.inr (Or.inl (zEff_s h ⟨h2, h6⟩ ho)))
      · exact Or.inr (Or.inr (Or.inr (zEff_t h2 h6)))
    · exact Or.inr (Or.inl (zEff_i h h2))
theorem zStop_off {x : zS × List zEv} {p s f : Nat} (hf : f ≠ 5 ∧ f ≠ 16 ∧ f ≠ 17) : (zStop x p s).1 f = x.1 f := by
  unfold zStop
  simp only []
  rw [zu_off hf.2.2, zu_off hf.2.1, zu_off hf.1]
theorem zStop_5 {x : zS × List zEv} {p s : Nat} : (zStop x p s).1 5 p = 1 := by
  unfold zStop
  simp only []
  rw [zu_off (by decide), zu_off (by decide), zu_self]
theorem zT3_4 {σ : zS} {p : Nat} {a b : Int32} : zT3 σ p a b 4 p = 1 := by
  rw [zT3_off (by decide)]
  unfold zT2
  rw [zHandN_off (by decide)]
  simp [zDie, zu]
theorem zT3_11 {σ : zS} {p : Nat} {a b : Int32} : zT3 σ p a b 11 p = 0 := by
  rw [zT3_off (by decide)]
  unfold zT2
  rw [zHandN_off (by decide)]
  simp [zDie, zu]
theorem zT3_56 {σ : zS} {p : Nat} {a b : Int32} : zT3 σ p a b 5 p = 0 ∧ zT3 σ p a b 6 p = 0 := by
  rw [zT3_off (by decide), zT3_off (by decide)]
  unfold zT2
  rw [zHandN_off (by decide), zHandN_off (by decide)]
  simp [zDie, zu]
/-- the rest of a delivery, from signal k on -/
def zDfrom (p : Nat) (x : zS × List zEv) (k : Nat) : zS × List zEv := ((List.range' k (9 - k)).foldl (zDstep p) x)
theorem zDfrom_9 {p : Nat} {x : zS × List zEv} : zDfrom p x 9 = x := rfl
theorem zDfrom_0 {p : Nat} {x : zS × List zEv} : zDfrom p x 0 = zDfold p x 9 := by
  unfold zDfrom zDfold
  rw [List.range_eq_range']
theorem zDfrom_step {p : Nat} {x : zS × List zEv} {k : Nat} (h : k < 9) : zDfrom p x k = zDfrom p (zDstep p x k) (k + 1) := by
  unfold zDfrom
  rw [show 9 - k = (9 - (k + 1)) + 1 by omega, List.range'_succ]
  rfl
theorem zDstep_no {p : Nat} {x : zS × List zEv} {s : Nat} (h : ¬ (x.1 4 p = 0 ∧ x.1 5 p = 0 ∧ zOpen x.1 p &&& zSh s ≠ 0)) : zDstep p x s = x := if_neg h
theorem zDstep_yes {p : Nat} {x : zS × List zEv} {s : Nat} (h : x.1 4 p = 0 ∧ x.1 5 p = 0 ∧ zOpen x.1 p &&& zSh s ≠ 0) : zDstep p x s = zEff (zu x.1 11 p (zClr (x.1 11 p) s), x.2) p s := if_pos h
theorem zDfrom_skip {p : Nat} {x : zS × List zEv} : ∀ {n k : Nat}, k + n ≤ 9 → (∀ s, k ≤ s → s < k + n → ¬ (x.1 4 p = 0 ∧ x.1 5 p = 0 ∧ zOpen x.1 p &&& zSh s ≠ 0)) → zDfrom p x k = zDfrom p x (k + n)
  | 0, k, _, _ => rfl
  | n + 1, k, hk, h => by
    rw [zDfrom_step (by omega), zDstep_no (h k (Nat.le_refl _) (by omega))]
    have := zDfrom_skip (p := p) (x := x) (n := n) (k := k + 1) (by omega) (fun s h1 h2 => h s (by omega) (by omega))
    rw [this]
    congr 1
    omega
theorem zDfrom_end {p : Nat} {x : zS × List zEv} {k : Nat} (hk : k ≤ 9) (h : ∀ s, k ≤ s → s < 9 → ¬ (x.1 4 p = 0 ∧ x.1 5 p = 0 ∧ zOpen x.1 p &&& zSh s ≠ 0)) : zDfrom p x k = x := by
  have := zDfrom_skip (p := p) (x := x) (n := 9 - k) (k := k) (by omega) (fun s h1 h2 => h s h1 (by omega))
  rw [this, show k + (9 - k) = 9 by omega]
  rfl
