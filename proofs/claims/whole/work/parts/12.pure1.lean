/-! pure rows: how far up the parents go, how many events come -/
def zAnc : Nat → zS → Nat → Prop
  | 0, _, q => q = 1
  | n + 1, σ, q => q = 1 ∨ (1 ≤ q ∧ q < 41 ∧ σ 0 q ≠ 0 ∧ ∃ j, σ 1 q = nI j ∧ 1 ≤ j ∧ j < 41 ∧ zAnc n σ j)
theorem zAnc.in {n : Nat} {σ : zS} {q : Nat} (h : zAnc n σ q) : 1 ≤ q ∧ q < 41 := by
  cases n with
  | zero => rw [show q = 1 from h]; decide
  | succ n =>
    rcases h with h | h
    · rw [h]; decide
    · exact ⟨h.1, h.2.1⟩
theorem zAnc.mono {n : Nat} {σ : zS} : ∀ {q : Nat}, zAnc n σ q → zAnc (n + 1) σ q := by
  induction n with
  | zero => intro q h; exact Or.inl h
  | succ n ih =>
    intro q h
    rcases h with h | ⟨h1, h2, h3, j, h4, h5, h6, h7⟩
    · exact Or.inl h
    · exact Or.inr ⟨h1, h2, h3, j, h4, h5, h6, ih h7⟩
theorem zAnc.ag {n : Nat} {σ τ : zS} (h0 : σ 0 = τ 0) (h1 : σ 1 = τ 1) : ∀ {q : Nat}, zAnc n σ q → zAnc n τ q := by
  induction n with
  | zero => intro q h; exact h
  | succ n ih =>
    intro q h
    rcases h with h | ⟨a1, a2, a3, j, a4, a5, a6, a7⟩
    · exact Or.inl h
    · exact Or.inr ⟨a1, a2, by rw [← h0]; exact a3, j, by rw [← h1]; exact a4, a5, a6, ih a7⟩
theorem zHeir_in {σ : zS} : ∀ {n q : Nat}, zAnc n σ q → 1 ≤ zHeir (n + 1) σ q ∧ zHeir (n + 1) σ q < 41
  | 0, q, h => by
    rw [show q = 1 from h]
    simp [zHeir]
  | n + 1, q, h => by
    have hq := h.in
    unfold zHeir
    split
    · decide
    · rename_i hne
      split
      · exact hq
      · rcases h with h | ⟨a1, a2, a3, j, a4, a5, a6, a7⟩
        · exact absurd h hne
        · rw [a4, show pn (nI j) = j from nI_clamp (by omega)]
          exact zHeir_in a7
/-- the heir is there, and no zombie -/
theorem zHeir_live {σ : zS} (h1 : σ 0 1 ≠ 0) (h4 : σ 4 1 = 0) : ∀ {n q : Nat}, zAnc n σ q → σ 0 (zHeir (n + 1) σ q) ≠ 0 ∧ σ 4 (zHeir (n + 1) σ q) = 0
  | 0, q, h => by
    rw [show q = 1 from h]
    simp [zHeir, h1, h4]
  | n + 1, q, h => by
    unfold zHeir
    split
    · exact ⟨h1, h4⟩
    · rename_i hne
      rcases h with h | ⟨a1, a2, a3, j, a4, a5, a6, a7⟩
      · exact absurd h hne
      split
      · rename_i hr
        exact ⟨a3, hr.2⟩
      · rw [a4, show pn (nI j) = j from nI_clamp (by omega)]
        exact zHeir_live h1 h4 a7
theorem zHeir_ag {σ τ : zS} (h1 : σ 1 = τ 1) (h4 : σ 4 = τ 4) (h13 : σ 13 = τ 13) : ∀ n q : Nat, zHeir n σ q = zHeir n τ q
  | 0, q => rfl
  | n + 1, q => by
    unfold zHeir
    rw [h1, h4, h13, zHeir_ag h1 h4 h13 n]
theorem zFil_len {α : Type} (a b c : α → Bool) (ha : ∀ x, a x = true → c x = true) (hb : ∀ x, b x = true → c x = true) (hab : ∀ x, a x = true → b x = true → False) : ∀ l : List α, (l.filter a).length + (l.filter b).length ≤ (l.filter c).length
  | [] => by simp
  | x :: l => by
    have ih := zFil_len a b c ha hb hab l
    rw [List.filter_cons, List.filter_cons, List.filter_cons]
    by_cases h1 : a x = true
    · have h2 : ¬ b x = true := fun q => hab x h1 q
      rw [if_pos h1, if_neg h2, if_pos (ha x h1)]
      simp only [List.length_cons]
      omega
    · rw [if_neg h1]
      by_cases h2 : b x = true
      · rw [if_pos h2, if_pos (hb x h2)]
        simp only [List.length_cons]
        omega
      · rw [if_neg h2]
        split
        · simp only [List.length_cons]; omega
        · exact ih
theorem zBelow_len (σ : zS) (n : Nat) (hn : n < 2 ^ 31) : (zMemL σ (nI n) 41).length + ((List.range 41).filter (fun k => decide (pn (σ 2 k) < n))).length ≤ ((List.range 41).filter (fun k => decide (pn (σ 2 k) < n + 1))).length := by
  refine zFil_len _ _ _ (fun k hk => ?_) (fun k hk => ?_) (fun k h1 h2 => ?_) _
  · have := of_decide_eq_true hk
    rw [decide_eq_true_eq, this.2.2, show pn (nI n) = n from nI_clamp hn]
    omega
  · have := of_decide_eq_true hk
    rw [decide_eq_true_eq]
    omega
  · have h3 := of_decide_eq_true h1
    have h4 := of_decide_eq_true h2
    rw [h3.2.2, show pn (nI n) = n from nI_clamp hn] at h4
    omega
theorem zSends_len {σ : zS} {g : Int32} {s n : Nat} : (zSends σ g s n).length ≤ n := by
  unfold zSends
  rw [List.length_map]
  unfold zMemL
  exact Nat.le_trans (List.length_filter_le _ _) (by simp)
theorem zTq3_len (σ σ3 : zS) : ∀ n, n < 2 ^ 31 → (zTq3 σ σ3 n).length ≤ 2 * ((List.range 41).filter (fun k => decide (pn (σ3 2 k) < n))).length
  | 0, _ => by simp [zTq3]
  | n + 1, h => by
    have ih := zTq3_len σ σ3 n (by omega)
    have h1 := zBelow_len σ3 n (by omega)
    have e : zTq3 σ σ3 (n + 1) = zTq3 σ σ3 n ++ (if zNewO σ σ3 n then zSends σ3 (nI n) 0 41 ++ zSends σ3 (nI n) 7 41 else []) := by
      unfold zTq3
      rw [List.range_succ, List.flatMap_append]
      simp
    rw [e, List.length_append]
    split
    · rw [List.length_append]
      unfold zSends
      rw [List.length_map, List.length_map]
      omega
    · simp only [List.length_nil]
      omega
theorem zTq3_82 (σ σ3 : zS) (n : Nat) (h : n < 2 ^ 31) : (zTq3 σ σ3 n).length ≤ 82 := by
  have h1 := zTq3_len σ σ3 n h
  have h2 : ((List.range 41).filter (fun k => decide (pn (σ3 2 k) < n))).length ≤ 41 := Nat.le_trans (List.length_filter_le _ _) (by simp)
  omega
theorem zTq3_no {σ σ3 : zS} {n : Nat} (h : ¬ zNewO σ σ3 n) : zTq3 σ σ3 (n + 1) = zTq3 σ σ3 n := by
  unfold zTq3
  rw [List.range_succ, List.flatMap_append]
  simp only [List.flatMap_cons, List.flatMap_nil, List.append_nil]
  split
  · rename_i q; exact absurd q h
  · exact List.append_nil _
theorem zTq3_yes {σ σ3 : zS} {n : Nat} (h : zNewO σ σ3 n) : zTq3 σ σ3 (n + 1) = zTq3 σ σ3 n ++ (zSends σ3 (nI n) 0 41 ++ zSends σ3 (nI n) 7 41) := by
  unfold zTq3
  rw [List.range_succ, List.flatMap_append]
  simp only [List.flatMap_cons, List.flatMap_nil, List.append_nil]
  split
  · rfl
  · rename_i q; exact absurd h q
theorem zTq2_no {σ : zS} {p n : Nat} (h : ¬ zWasZ σ p n) : zTq2 σ p (n + 1) = zTq2 σ p n := by
  unfold zTq2
  rw [List.range_succ, List.filter_append, List.filter_cons, if_neg (by rw [decide_eq_true_eq]; exact h), List.filter_nil, List.append_nil]
theorem zTq2_yes {σ : zS} {p n : Nat} (h : zWasZ σ p n) : zTq2 σ p (n + 1) = zTq2 σ p n ++ [(9, n)] := by
  unfold zTq2
  rw [List.range_succ, List.filter_append, List.filter_cons, if_pos (by rw [decide_eq_true_eq]; exact h), List.filter_nil, List.map_append]
  rfl
theorem zTq2_len (σ : zS) (p n : Nat) : (zTq2 σ p n).length ≤ n := by
  unfold zTq2
  rw [List.length_map]
  exact Nat.le_trans (List.length_filter_le _ _) (by simp)
theorem zTq1_len (σ : zS) (p : Nat) (how v : Int32) : (zTq1 σ p how v).length ≤ 41 := by
  unfold zTq1
  split
  · exact zSends_len
  · simp
theorem zTq_len (σ : zS) (p : Nat) (how v : Int32) : (zTq σ p how v).length ≤ 165 := by
  unfold zTq
  have h1 := zTq1_len σ p how v
  have h2 := zTq2_len σ p 41
  have h3 := zTq3_82 σ (zT3 σ p how v) 41 (by decide)
  simp only [List.length_append, List.length_cons, List.length_nil]
  omega
theorem zRing.ag {r s : zS} {q : List zEv} (h : zRing r q) (h4 : s 24 = r 24) (h5 : s 25 = r 25) (h6 : s 26 = r 26) : zRing s q := by
  obtain ⟨hd, h1, h2, h3, h7, h8⟩ := h
  exact ⟨hd, h1, by rw [h5]; exact h2, by rw [h6]; exact h3, h7, fun i e hi => by rw [h4]; exact h8 i e hi⟩
theorem zOrph_ag {r s : zS} (h : zAg r s) {g : Int32} : zOrph r g ↔ zOrph s g := by
  show (∀ k, k < 41 → ¬ (zAtt r k ∧ r 2 k = g)) ↔ (∀ k, k < 41 → ¬ (zAtt s k ∧ s 2 k = g))
  have e : ∀ k, zAtt r k ↔ zAtt s k := fun k => by unfold zAtt; rw [h 0 (by decide), h 1 (by decide), h 2 (by decide), h 3 (by decide), h 4 (by decide)]
  simp only [e, h 2 (by decide)]
theorem zMem_ag {r s : zS} (h : zAg r s) {k : Nat} {g : Int32} : zMem r k g ↔ zMem s k g := by
  simp only [zMem, h 0 (by decide), h 2 (by decide), h 4 (by decide)]
theorem zMemL_ag {r s : zS} (h : zAg r s) {g : Int32} {n : Nat} : zMemL r g n = zMemL s g n := by
  unfold zMemL
  congr 1
  funext k
  exact decide_eq_decide.mpr (zMem_ag h)
theorem zSends_ag {r s : zS} (h : zAg r s) {g : Int32} {sg n : Nat} : zSends r g sg n = zSends s g sg n := by unfold zSends; rw [zMemL_ag h]
theorem zStopd_ag {r s : zS} (h : zAg r s) {g : Int32} {n : Nat} : zStopd r g n ↔ zStopd s g n := by
  simp only [zStopd, zMem_ag h, h 5 (by decide)]
theorem zAg.tr {a b c : zS} (h : zAg a b) (h2 : zAg b c) : zAg a c := fun k hk => (h k hk).trans (h2 k hk)
theorem zAg_zu {a b : zS} (h : zAg a b) {f p : Nat} {v : Int32} : zAg (zu a f p v) (zu b f p v) := by
  intro k hk
  by_cases hf : k = f
  · subst hf
    rw [zu_at, zu_at, h k hk]
  · rw [zu_off hf, zu_off hf, h k hk]
theorem zAg_off {a b : zS} (h : zAg a b) {f p : Nat} {v : Int32} (hf : 22 < f) : zAg (zu a f p v) b := fun k hk => (zu_off (by omega)).trans (h k hk)
