/-- an event as the ring holds it -/
def zCode (e : zEv) : Nat := if e.1 = 9 then 2000 + e.2 else if e.1 = 10 then 3000 + e.2 else 1000 + 50 * e.1 + e.2
def zRing (r : zS) (q : List zEv) : Prop := ∃ hd : Nat, hd < 8192 ∧ r 25 0 = nI hd ∧ r 26 0 = nI ((hd + q.length) % 8192) ∧ q.length < 8192 ∧ ∀ (i : Nat) (e : zEv), q[i]? = some e → r 24 ((hd + i) % 8192) = nI (zCode e)
abbrev zAg (r σ : zS) : Prop := ∀ k, k ≤ 22 → r k = σ k
theorem zvi {x y : Int32} (h : x = y) : (some (Value.int x)) = some (Value.int y) := by rw [h]
theorem z40 {i : Nat} (h : i ≤ 40) : ¬ (40 : Int32) < nI i := nI_nlt (a := 40) (b := i) h (by decide)
theorem z41 : (40 : Int32) < nI 41 := by decide
theorem z1i (i : Nat) : nI i + Int32.ofInt 1 = nI (i + 1) := nI_1 i
theorem zAll_succ {P : Nat → Prop} {n : Nat} : (∀ k, k < n + 1 → P k) ↔ (∀ k, k < n → P k) ∧ P n := ⟨fun h => ⟨fun k hk => h k (by omega), h n (by omega)⟩, fun h k hk => by
  rcases Nat.lt_succ_iff_lt_or_eq.mp hk with h1 | h1
  · exact h.1 k h1
  · rw [h1]; exact h.2⟩
theorem zMemL_succ {σ : zS} {g : Int32} {n : Nat} : zMemL σ g (n + 1) = zMemL σ g n ++ (if zMem σ n g then [n] else []) := by
  unfold zMemL
  rw [List.range_succ, List.filter_append]
  congr 1
  by_cases h : zMem σ n g
  · rw [if_pos h, List.filter_cons, if_pos (decide_eq_true h), List.filter_nil]
  · rw [if_neg h, List.filter_cons, if_neg (by rw [decide_eq_true_eq]; exact h), List.filter_nil]
theorem zSends_succ {σ : zS} {g : Int32} {s n : Nat} : zSends σ g s (n + 1) = zSends σ g s n ++ (if zMem σ n g then [(s, n)] else []) := by
  unfold zSends
  rw [zMemL_succ, List.map_append]
  congr 1
  split <;> rfl
theorem zMemL_no {σ : zS} {g : Int32} {n : Nat} (h : ¬ zMem σ n g) : zMemL σ g (n + 1) = zMemL σ g n := by
  rw [zMemL_succ]
  split
  · rename_i h2; exact absurd h2 h
  · exact List.append_nil _
theorem zMemL_yes {σ : zS} {g : Int32} {n : Nat} (h : zMem σ n g) : zMemL σ g (n + 1) = zMemL σ g n ++ [n] := by
  rw [zMemL_succ]
  split
  · rfl
  · rename_i h2; exact absurd h h2
theorem zSends_no {σ : zS} {g : Int32} {s n : Nat} (h : ¬ zMem σ n g) : zSends σ g s (n + 1) = zSends σ g s n := by unfold zSends; rw [zMemL_no h]
theorem zSends_yes {σ : zS} {g : Int32} {s n : Nat} (h : zMem σ n g) : zSends σ g s (n + 1) = zSends σ g s n ++ [(s, n)] := by unfold zSends; rw [zMemL_yes h, List.map_append]; rfl
theorem zin40 {x : Int32} (h0 : ¬ x ≤ 0) (h1 : ¬ (40 : Int32) < x) : x = nI (pn x) ∧ pn x < 41 := by
  have a0 : ¬ x < 0 := fun q => h0 (Int32.le_of_lt q)
  obtain ⟨j, hj, rfl⟩ := nI_of a0
  have e : pn (nI j) = j := nI_clamp hj
  have h2 : nI j ≤ nI 40 := Int32.not_lt.mp h1
  have := (nI_leI hj (by decide)).mp h2
  rw [e]
  exact ⟨rfl, by omega⟩
def zAnc : Nat → zS → Nat → Prop
  | 0, _, q => q = 1
  | n + 1, σ, q => q = 1 ∨ (1 ≤ q ∧ q < 41 ∧ σ 0 q ≠ 0 ∧ ∃ j, σ 1 q = nI j ∧ 1 ≤ j ∧ j < 41 ∧ zAnc n σ j)
theorem zAnc.in {n : Nat} {σ : zS} {q : Nat} (h : zAnc n σ q) : 1 ≤ q ∧ q < 41 := by
  cases n with
  | zero => rw [show q = 1 from h]; decide
  | succ n =>
    rcases h with h | h
    · rw [h]; decide
    · exact ⟨h.1, h.2.1⟩
theorem zAnc.mono {n : Nat} {σ : zS} : ∀ {q : Nat}, zAnc n σ q → zAnc (n + 1) σ q := by
  induction n with
  | zero => intro q h; exact Or.inl h
  | succ n ih =>
    intro q h
    rcases h with h | ⟨h1, h2, h3, j, h4, h5, h6, h7⟩
    · exact Or.inl h
    · exact Or.inr ⟨h1, h2, h3, j, h4, h5, h6, ih h7⟩
theorem zAnc.ag {n : Nat} {σ τ : zS} (h0 : σ 0 = τ 0) (h1 : σ 1 = τ 1) : ∀ {q : Nat}, zAnc n σ q → zAnc n τ q := by
  induction n with
  | zero => intro q h; exact h
  | succ n ih =>
    intro q h
    rcases h with h | ⟨a1, a2, a3, j, a4, a5, a6, a7⟩
    · exact Or.inl h
    · exact Or.inr ⟨a1, a2, by rw [← h0]; exact a3, j, by rw [← h1]; exact a4, a5, a6, ih a7⟩
theorem zHeir_in {σ : zS} : ∀ {n q : Nat}, zAnc n σ q → 1 ≤ zHeir (n + 1) σ q ∧ zHeir (n + 1) σ q < 41
  | 0, q, h => by
    rw [show q = 1 from h]
    simp [zHeir]
  | n + 1, q, h => by
    have hq := h.in
    unfold zHeir
    split
    · decide
    · rename_i hne
      split
      · exact hq
      · rcases h with h | ⟨a1, a2, a3, j, a4, a5, a6, a7⟩
        · exact absurd h hne
        · rw [a4, show pn (nI j) = j from nI_clamp (by omega)]
          exact zHeir_in a7
/-- the heir is there, and no zombie -/
theorem zHeir_live {σ : zS} (h1 : σ 0 1 ≠ 0) (h4 : σ 4 1 = 0) : ∀ {n q : Nat}, zAnc n σ q → σ 0 (zHeir (n + 1) σ q) ≠ 0 ∧ σ 4 (zHeir (n + 1) σ q) = 0
  | 0, q, h => by
    rw [show q = 1 from h]
    simp [zHeir, h1, h4]
  | n + 1, q, h => by
    unfold zHeir
    split
    · exact ⟨h1, h4⟩
    · rename_i hne
      rcases h with h | ⟨a1, a2, a3, j, a4, a5, a6, a7⟩
      · exact absurd h hne
      split
      · rename_i hr
        exact ⟨a3, hr.2⟩
      · rw [a4, show pn (nI j) = j from nI_clamp (by omega)]
        exact zHeir_live h1 h4 a7
theorem zHeir_ag {σ τ : zS} (h1 : σ 1 = τ 1) (h4 : σ 4 = τ 4) (h13 : σ 13 = τ 13) : ∀ n q : Nat, zHeir n σ q = zHeir n τ q
  | 0, q => rfl
  | n + 1, q => by
    unfold zHeir
    rw [h1, h4, h13, zHeir_ag h1 h4 h13 n]
theorem zFil_len {α : Type} (a b c : α → Bool) (ha : ∀ x, a x = true → c x = true) (hb : ∀ x, b x = true → c x = true) (hab : ∀ x, a x = true → b x = true → False) : ∀ l : List α, (l.filter a).length + (l.filter b).length ≤ (l.filter c).length
  | [] => by simp
  | x :: l => by
    have ih := zFil_len a b c ha hb hab l
    rw [List.filter_cons, List.filter_cons, List.filter_cons]
    by_cases h1 : a x = true
    · have h2 : ¬ b x = true := fun q => hab x h1 q
      rw [if_pos h1, if_neg h2, if_pos (ha x h1)]
      simp only [List.length_cons]
      omega
    · rw [if_neg h1]
      by_cases h2 : b x = true
      · rw [if_pos h2, if_pos (hb x h2)]
        simp only [List.length_cons]
        omega
      · rw [if_neg h2]
        split
        · simp only [List.length_cons]; omega
        · exact ih
theorem zBelow_len (σ : zS) (n : Nat) (hn : n < 2 ^ 31) : (zMemL σ (nI n) 41).length + ((List.range 41).filter (fun k => decide (pn (σ 2 k) < n))).length ≤ ((List.range 41).filter (fun k => decide (pn (σ 2 k) < n + 1))).length := by
  refine zFil_len _ _ _ (fun k hk => ?_) (fun k hk => ?_) (fun k h1 h2 => ?_) _
  · have := of_decide_eq_true hk
    rw [decide_eq_true_eq, this.2.2, show pn (nI n) = n from nI_clamp hn]
    omega
  · have := of_decide_eq_true hk
    rw [decide_eq_true_eq]
    omega
  · have h3 := of_decide_eq_true h1
    have h4 := of_decide_eq_true h2
    rw [h3.2.2, show pn (nI n) = n from nI_clamp hn] at h4
    omega
theorem zSends_len {σ : zS} {g : Int32} {s n : Nat} : (zSends σ g s n).length ≤ n := by
  unfold zSends
  rw [List.length_map]
  unfold zMemL
  exact Nat.le_trans (List.length_filter_le _ _) (by simp)
theorem zTq3_len (σ σ3 : zS) : ∀ n, n < 2 ^ 31 → (zTq3 σ σ3 n).length ≤ 2 * ((List.range 41).filter (fun k => decide (pn (σ3 2 k) < n))).length
  | 0, _ => by simp [zTq3]
  | n + 1, h => by
    have ih := zTq3_len σ σ3 n (by omega)
    have h1 := zBelow_len σ3 n (by omega)
    have e : zTq3 σ σ3 (n + 1) = zTq3 σ σ3 n ++ (if zNewO σ σ3 n then zSends σ3 (nI n) 0 41 ++ zSends σ3 (nI n) 7 41 else []) := by
      unfold zTq3
      rw [List.range_succ, List.flatMap_append]
      simp
    rw [e, List.length_append]
    split
    · rw [List.length_append]
      unfold zSends
      rw [List.length_map, List.length_map]
      omega
    · simp only [List.length_nil]
      omega
theorem zTq3_82 (σ σ3 : zS) (n : Nat) (h : n < 2 ^ 31) : (zTq3 σ σ3 n).length ≤ 82 := by
  have h1 := zTq3_len σ σ3 n h
  have h2 : ((List.range 41).filter (fun k => decide (pn (σ3 2 k) < n))).length ≤ 41 := Nat.le_trans (List.length_filter_le _ _) (by simp)
  omega
theorem zTq3_no {σ σ3 : zS} {n : Nat} (h : ¬ zNewO σ σ3 n) : zTq3 σ σ3 (n + 1) = zTq3 σ σ3 n := by
  unfold zTq3
  rw [List.range_succ, List.flatMap_append]
  simp only [List.flatMap_cons, List.flatMap_nil, List.append_nil]
  split
  · rename_i q; exact absurd q h
  · exact List.append_nil _
theorem zTq3_yes {σ σ3 : zS} {n : Nat} (h : zNewO σ σ3 n) : zTq3 σ σ3 (n + 1) = zTq3 σ σ3 n ++ (zSends σ3 (nI n) 0 41 ++ zSends σ3 (nI n) 7 41) := by
  unfold zTq3
  rw [List.range_succ, List.flatMap_append]
  simp only [List.flatMap_cons, List.flatMap_nil, List.append_nil]
  split
  · rfl
  · rename_i q; exact absurd h q
theorem zTq2_no {σ : zS} {p n : Nat} (h : ¬ zWasZ σ p n) : zTq2 σ p (n + 1) = zTq2 σ p n := by
  unfold zTq2
  rw [List.range_succ, List.filter_append, List.filter_cons, if_neg (by rw [decide_eq_true_eq]; exact h), List.filter_nil, List.append_nil]
theorem zTq2_yes {σ : zS} {p n : Nat} (h : zWasZ σ p n) : zTq2 σ p (n + 1) = zTq2 σ p n ++ [(9, n)] := by
  unfold zTq2
  rw [List.range_succ, List.filter_append, List.filter_cons, if_pos (by rw [decide_eq_true_eq]; exact h), List.filter_nil, List.map_append]
  rfl
theorem zTq2_len (σ : zS) (p n : Nat) : (zTq2 σ p n).length ≤ n := by
  unfold zTq2
  rw [List.length_map]
  exact Nat.le_trans (List.length_filter_le _ _) (by simp)
theorem zTq1_len (σ : zS) (p : Nat) (how v : Int32) : (zTq1 σ p how v).length ≤ 41 := by
  unfold zTq1
  split
  · exact zSends_len
  · simp
theorem zTq_len (σ : zS) (p : Nat) (how v : Int32) : (zTq σ p how v).length ≤ 165 := by
  unfold zTq
  have h1 := zTq1_len σ p how v
  have h2 := zTq2_len σ p 41
  have h3 := zTq3_82 σ (zT3 σ p how v) 41 (by decide)
  simp only [List.length_append, List.length_cons, List.length_nil]
  omega
theorem zRing.ag {r s : zS} {q : List zEv} (h : zRing r q) (h4 : s 24 = r 24) (h5 : s 25 = r 25) (h6 : s 26 = r 26) : zRing s q := by
  obtain ⟨hd, h1, h2, h3, h7, h8⟩ := h
  exact ⟨hd, h1, by rw [h5]; exact h2, by rw [h6]; exact h3, h7, fun i e hi => by rw [h4]; exact h8 i e hi⟩
theorem zOrph_ag {r s : zS} (h : zAg r s) {g : Int32} : zOrph r g ↔ zOrph s g := by
  show (∀ k, k < 41 → ¬ (zAtt r k ∧ r 2 k = g)) ↔ (∀ k, k < 41 → ¬ (zAtt s k ∧ s 2 k = g))
  have e : ∀ k, zAtt r k ↔ zAtt s k := fun k => by unfold zAtt; rw [h 0 (by decide), h 1 (by decide), h 2 (by decide), h 3 (by decide), h 4 (by decide)]
  simp only [e, h 2 (by decide)]
theorem zMem_ag {r s : zS} (h : zAg r s) {k : Nat} {g : Int32} : zMem r k g ↔ zMem s k g := by
  simp only [zMem, h 0 (by decide), h 2 (by decide), h 4 (by decide)]
theorem zMemL_ag {r s : zS} (h : zAg r s) {g : Int32} {n : Nat} : zMemL r g n = zMemL s g n := by
  unfold zMemL
  congr 1
  funext k
  exact decide_eq_decide.mpr (zMem_ag h)
theorem zSends_ag {r s : zS} (h : zAg r s) {g : Int32} {sg n : Nat} : zSends r g sg n = zSends s g sg n := by unfold zSends; rw [zMemL_ag h]
theorem zStopd_ag {r s : zS} (h : zAg r s) {g : Int32} {n : Nat} : zStopd r g n ↔ zStopd s g n := by
  simp only [zStopd, zMem_ag h, h 5 (by decide)]
theorem zAg.tr {a b c : zS} (h : zAg a b) (h2 : zAg b c) : zAg a c := fun k hk => (h k hk).trans (h2 k hk)
theorem zAg_zu {a b : zS} (h : zAg a b) {f p : Nat} {v : Int32} : zAg (zu a f p v) (zu b f p v) := by
  intro k hk
  by_cases hf : k = f
  · subst hf
    rw [zu_at, zu_at, h k hk]
  · rw [zu_off hf, zu_off hf, h k hk]
theorem zAg_off {a b : zS} (h : zAg a b) {f p : Nat} {v : Int32} (hf : 22 < f) : zAg (zu a f p v) b := fun k hk => (zu_off (by omega)).trans (h k hk)

theorem zHandN_succ {σ : zS} {p h n : Nat} (hn : σ 0 n ≠ 0 ∧ σ 1 n = nI p) : zHandN σ p h (n + 1) = zu (zHandN σ p h n) 1 n (nI h) := by
  funext f k
  simp only [zHandN, zu]
  by_cases hf : f = 1
  · by_cases hk : k = n
    · subst hk; simp [hf, hn]
    · have : (k < n + 1) ↔ k < n := by omega
      simp [hf, hk, this]
  · simp [hf]
theorem zHandN_same {σ : zS} {p h n : Nat} (hn : ¬ (σ 0 n ≠ 0 ∧ σ 1 n = nI p)) : zHandN σ p h (n + 1) = zHandN σ p h n := by
  funext f k
  simp only [zHandN]
  by_cases hk : k = n
  · subst hk
    have e1 : ¬ (f = 1 ∧ k < k + 1 ∧ σ 0 k ≠ 0 ∧ σ 1 k = nI p) := fun q => hn q.2.2
    have e2 : ¬ (f = 1 ∧ k < k ∧ σ 0 k ≠ 0 ∧ σ 1 k = nI p) := fun q => hn q.2.2
    rw [if_neg e1, if_neg e2]
  · have : (k < n + 1) ↔ k < n := by omega
    simp only [this]
theorem zHandN_0 {σ : zS} {p h : Nat} : zHandN σ p h 0 = σ := by
  funext f k
  simp [zHandN]
theorem zHandN_off {σ : zS} {p h n f : Nat} (hf : f ≠ 1) : zHandN σ p h n f = σ f := by
  funext k
  simp [zHandN, hf]
theorem zDie_off {σ : zS} {p : Nat} {a b : Int32} {f : Nat} (hf : f ≠ 4 ∧ f ≠ 5 ∧ f ≠ 6 ∧ f ≠ 11 ∧ f ≠ 14 ∧ f ≠ 15) : zDie σ p a b f = σ f := by
  unfold zDie
  rw [zu_off hf.2.1, zu_off hf.2.2.1, zu_off hf.2.2.2.1, zu_off hf.2.2.2.2.2, zu_off hf.2.2.2.2.1, zu_off hf.1]
theorem zT2_off {σ : zS} {p : Nat} {a b : Int32} {f : Nat} (hf : f ≠ 1 ∧ f ≠ 4 ∧ f ≠ 5 ∧ f ≠ 6 ∧ f ≠ 11 ∧ f ≠ 14 ∧ f ≠ 15) : zT2 σ p a b f = σ f := (zHandN_off hf.1).trans (zDie_off hf.2)
theorem zT3_off {σ : zS} {p : Nat} {a b : Int32} {f : Nat} (hf : f ≠ 21 ∧ f ≠ 22) : zT3 σ p a b f = zT2 σ p a b f := by
  unfold zT3 zFreeT
  split
  · rw [zu_off hf.2, zu_off hf.1]
  · rfl
theorem zTq1_if {σ : zS} {p : Nat} {a b : Int32} (h : zTm σ p) : zTq1 σ p a b = zSends (zT2 σ p a b) (σ 22 0) 0 41 := if_pos h
theorem zTq1_no {σ : zS} {p : Nat} {a b : Int32} (h : ¬ zTm σ p) : zTq1 σ p a b = [] := if_neg h
theorem zT3_if {σ : zS} {p : Nat} {a b : Int32} (h : zTm σ p) : zT3 σ p a b = zFreeT (zT2 σ p a b) := if_pos h
theorem zT3_no {σ : zS} {p : Nat} {a b : Int32} (h : ¬ zTm σ p) : zT3 σ p a b = zT2 σ p a b := if_neg h
/-- what the reference needs of its rows, at any point -/
def zWm (σ : zS) : Prop := σ 0 0 = 0 ∧ ∀ k, k < 41 → σ 0 k ≠ 0 → k ≠ 1 → ∃ j, 1 ≤ j ∧ j < 41 ∧ σ 1 k = nI j
theorem zBest_none {σ : zS} {p : Nat} : ∀ {n : Nat}, (∀ k, k < n → ¬ zRep σ p k) → zBest σ p n = none := by
  intro n h
  unfold zBest
  rw [List.find?_eq_none]
  intro k hk
  rw [decide_eq_true_eq]
  exact h k (List.mem_range.mp hk)
theorem zBest_some {σ : zS} {p b : Nat} : ∀ {n : Nat}, b < n → zRep σ p b → (∀ k, k < b → ¬ zRep σ p k) → zBest σ p n = some b
  | 0, h, _, _ => absurd h (by omega)
  | n + 1, h, hr, hl => by
    unfold zBest
    rw [List.range_succ, List.find?_append]
    by_cases hb : b < n
    · have := zBest_some (n := n) hb hr hl
      unfold zBest at this
      rw [this]
      rfl
    · have hbn : b = n := by omega
      subst hbn
      have := zBest_none (σ := σ) (p := p) (n := b) hl
      unfold zBest at this
      rw [this, List.find?_cons, decide_eq_true hr]
      rfl
theorem zCheck_idle {σ : zS} {p : Nat} (h : σ 6 p = 0 ∨ σ 5 p ≠ 0) : zCheck σ p = σ := if_pos h
theorem zCheck_none {σ : zS} {p : Nat} (h : ¬ (σ 6 p = 0 ∨ σ 5 p ≠ 0)) (hk : ∀ k, k < 41 → ¬ zKid σ p k) : zCheck σ p = zEnds σ p 4 (-1) (-1) := by
  unfold zCheck
  rw [if_neg h, zBest_none (fun k hk1 q => hk k hk1 q.1)]
  exact if_pos hk
theorem zCheck_wait {σ : zS} {p : Nat} (hb : ∀ k, k < 41 → ¬ zRep σ p k) (hk : ¬ ∀ k, k < 41 → ¬ zKid σ p k) : zCheck σ p = σ := by
  by_cases h : σ 6 p = 0 ∨ σ 5 p ≠ 0
  · exact zCheck_idle h
  · unfold zCheck
    rw [if_neg h, zBest_none hb]
    exact if_neg hk
theorem zEnds_off {σ : zS} {p f : Nat} {a b c : Int32} (hf : f ≠ 6 ∧ f ≠ 18 ∧ f ≠ 19 ∧ f ≠ 20) : zEnds σ p a b c f = σ f := by
  unfold zEnds
  rw [zu_off hf.2.2.2, zu_off hf.2.2.1, zu_off hf.2.1, zu_off hf.1]
theorem zCheck_off {σ : zS} {p f : Nat} (hf : f ≠ 0 ∧ f ≠ 17 ∧ f ≠ 6 ∧ f ≠ 18 ∧ f ≠ 19 ∧ f ≠ 20) : zCheck σ p f = σ f := by
  by_cases h : σ 6 p = 0 ∨ σ 5 p ≠ 0
  · rw [zCheck_idle h]
  · unfold zCheck
    rw [if_neg h]
    cases hb : zBest σ p 41 with
    | none =>
      show (if ∀ k, k < 41 → ¬ zKid σ p k then zEnds σ p 4 (-1) (-1) else σ) f = σ f
      split
      · exact zEnds_off hf.2.2
      · rfl
    | some k =>
      show (if σ 4 k ≠ 0 then zu (zEnds σ p (σ 14 k) (nI k) (σ 15 k)) 0 k 0 else zu (zEnds σ p 2 (nI k) (σ 16 k)) 17 k 0) f = σ f
      split
      · rw [zu_off hf.1, zEnds_off hf.2.2]
      · rw [zu_off hf.2.1, zEnds_off hf.2.2]
theorem znm1 {b : Nat} (h : b < 41) : ¬ nI b = -1 := fun q => by
  have h1 : (nI b).toInt = (b : Int) := nI_toInt (by omega)
  rw [q] at h1
  have h2 : (-1 : Int32).toInt = -1 := rfl
  rw [h2] at h1
  omega
def zbit (x : Int32) (s : Nat) : Bool := x.toBitVec.getLsbD s
theorem zsh31 {s : Nat} (h : s < 32) : nI s &&& 31 = nI s := by
  rw [pk_andN (n := s) (by omega) 5 rfl]
  congr 1
  exact Nat.mod_eq_of_lt (by omega)
theorem zsmod {s : Nat} (h : s < 32) : (nI s).toBitVec.smod 32 = BitVec.ofNat 32 s := by
  have : ∀ s : Fin 32, (nI s.val).toBitVec.smod 32 = BitVec.ofNat 32 s.val := by decide +kernel
  exact this ⟨s, h⟩
theorem zbit_and (a b : Int32) (s : Nat) : zbit (a &&& b) s = (zbit a s && zbit b s) := by
  simp [zbit]
theorem zbit_or (a b : Int32) (s : Nat) : zbit (a ||| b) s = (zbit a s || zbit b s) := by
  simp [zbit]
theorem zbit_not (a : Int32) {s : Nat} (h : s < 32) : zbit (a ^^^ (-1)) s = !zbit a s := by
  have e : (-1 : Int32).toBitVec = BitVec.allOnes 32 := rfl
  simp [zbit, e, h]
theorem zbit_sh {s t : Nat} (hs : s < 32) (ht : t < 32) : zbit (zSh s) t = decide (t = s) := by
  have : ∀ s t : Fin 32, zbit (zSh s.val) t.val = decide (t.val = s.val) := by decide +kernel
  exact this ⟨s, hs⟩ ⟨t, ht⟩
theorem zbit_ext {a b : Int32} (h : ∀ s, s < 32 → zbit a s = zbit b s) : a = b := by
  apply Int32.toBitVec_inj.mp
  apply BitVec.eq_of_getLsbD_eq
  intro i hi
  exact h i hi
theorem zbit_0 (s : Nat) : zbit 0 s = false := by simp [zbit]
theorem zbit_clr {x : Int32} {s t : Nat} (hs : s < 32) (ht : t < 32) : zbit (zClr x s) t = (zbit x t && !decide (t = s)) := by
  unfold zClr
  rw [zbit_and, zbit_not _ ht, zbit_sh hs ht]
theorem zbit_ne0 {x : Int32} : x ≠ 0 ↔ ∃ s, s < 32 ∧ zbit x s = true := by
  constructor
  · intro h
    by_cases hx : ∃ s, s < 32 ∧ zbit x s = true
    · exact hx
    · exact absurd (zbit_ext (fun s hs => by
        rw [zbit_0]
        cases hb : zbit x s with
        | false => rfl
        | true => exact absurd ⟨s, hs, hb⟩ hx)) h
  · rintro ⟨s, hs, hb⟩ rfl
    rw [zbit_0] at hb
    cases hb
theorem zbit_shne {x : Int32} {s : Nat} (hs : s < 32) : x &&& zSh s ≠ 0 ↔ zbit x s = true := by
  rw [zbit_ne0]
  constructor
  · rintro ⟨t, ht, hb⟩
    rw [zbit_and, zbit_sh hs ht, Bool.and_eq_true, decide_eq_true_eq] at hb
    rw [← hb.2]; exact hb.1
  · intro h
    exact ⟨s, hs, by rw [zbit_and, zbit_sh hs hs, h]; simp⟩
theorem zbit_1 {t : Nat} (ht : t < 32) : zbit 1 t = decide (t = 0) := by
  have : ∀ t : Fin 32, zbit 1 t.val = decide (t.val = 0) := by decide +kernel
  exact this ⟨t, ht⟩
theorem zbit_shr {x : Int32} {s : Nat} (hs : s < 32) : (x >>> (nI s &&& 31)).toBitVec.getLsbD 0 = zbit x s := by
  rw [zsh31 hs, Int32.toBitVec_shiftRight, zsmod hs]
  unfold zbit
  rw [BitVec.sshiftRight', BitVec.toNat_ofNat, Nat.mod_eq_of_lt (show s < 2 ^ 32 by omega), BitVec.getLsbD_sshiftRight]
  simp [hs]
theorem zbit_low {x : Int32} : (x &&& 1 = 1) ↔ zbit x 0 = true := by
  constructor
  · intro h
    have h1 : zbit (x &&& 1) 0 = true := by rw [h, zbit_1 (by decide)]; rfl
    rw [zbit_and, Bool.and_eq_true] at h1
    exact h1.1
  · intro h
    apply zbit_ext
    intro s hs
    rw [zbit_and, zbit_1 hs]
    by_cases h0 : s = 0
    · subst h0; simp [h]
    · simp [h0]
theorem zbit_low0 {x : Int32} : (x &&& 1 = 0) ↔ zbit x 0 = false := by
  have h1 : x &&& 1 ≠ 0 ↔ zbit x 0 = true := zbit_shne (s := 0) (by decide)
  cases hb : zbit x 0 with
  | false =>
    rw [hb] at h1
    simp only [Bool.false_eq_true, iff_false, Classical.not_not] at h1
    simp [h1]
  | true =>
    rw [hb] at h1
    simp only [iff_true] at h1
    simp [h1]
theorem zbt_bit {x : Int32} {s : Nat} (hs : s < 32) : zbt x s ↔ zbit x s = true := by
  unfold zbt
  rw [zbit_low]
  show (x >>> (nI s &&& 31)).toBitVec.getLsbD 0 = true ↔ _
  rw [zbit_shr hs]
theorem zshr0 {x : Int32} {s : Nat} (hs : s < 32) : (x >>> (nI s &&& 31) &&& 1 = 0) ↔ zbit x s = false := by
  rw [zbit_low0]
  show (x >>> (nI s &&& 31)).toBitVec.getLsbD 0 = false ↔ _
  rw [zbit_shr hs]
theorem zbit_511 {s : Nat} (hs : s < 32) : zbit 511 s = decide (s < 9) := by
  have : ∀ t : Fin 32, zbit 511 t.val = decide (t.val < 9) := by decide +kernel
  exact this ⟨s, hs⟩
theorem zbit_9 {x : Int32} (h : x &&& 511 = x) {s : Nat} (hs : s < 32) (hb : zbit x s = true) : s < 9 := by
  rw [← h, zbit_and, zbit_511 hs, Bool.and_eq_true, decide_eq_true_eq] at hb
  exact hb.2
theorem zopen_bit {σ : zS} {p s : Nat} (hs : s < 32) : zbit (zOpen σ p) s = (zbit (σ 11 p) s && !zbit (σ 10 p) s) := by
  unfold zOpen
  rw [zbit_and, zbit_not _ hs]
theorem zbit_small {x : Int32} (h : ∀ s, s < 32 → zbit x s = true → s < 9) : x &&& 511 = x := by
  apply zbit_ext
  intro s hs
  rw [zbit_and, zbit_511 hs]
  cases hb : zbit x s with
  | false => simp
  | true => simp [h s hs hb]
/-- bits of longs -/
def zlbit (x : Int64) (s : Nat) : Bool := x.toBitVec.getLsbD s
theorem zlbit_or (a b : Int64) (s : Nat) : zlbit (a ||| b) s = (zlbit a s || zlbit b s) := by
  simp [zlbit]
theorem zlbit_and (a b : Int64) (s : Nat) : zlbit (a &&& b) s = (zlbit a s && zlbit b s) := by
  simp [zlbit]
theorem zlbit_not (a : Int64) {s : Nat} (h : s < 64) : zlbit (a ^^^ (-1)) s = !zlbit a s := by
  have e : (-1 : Int64).toBitVec = BitVec.allOnes 64 := rfl
  simp [zlbit, e, h]
theorem zlbit_0 (s : Nat) : zlbit 0 s = false := by simp [zlbit]
def zlSh (s : Nat) : Int64 := 1 <<< ((nI s).toInt64 &&& 63)
theorem zlbit_sh {s t : Nat} (hs : s < 64) (ht : t < 64) : zlbit (zlSh s) t = decide (t = s) := by
  have : ∀ s t : Fin 64, zlbit (zlSh s.val) t.val = decide (t.val = s.val) := by decide +kernel
  exact this ⟨s, hs⟩ ⟨t, ht⟩
theorem zlsmod {s : Nat} (h : s < 64) : ((nI s).toInt64 &&& 63).toBitVec.smod 64 = BitVec.ofNat 64 s := by
  have : ∀ s : Fin 64, ((nI s.val).toInt64 &&& 63).toBitVec.smod 64 = BitVec.ofNat 64 s.val := by decide +kernel
  exact this ⟨s, h⟩
theorem zlbit_shr {x : Int64} {s : Nat} (hs : s < 64) : (x >>> ((nI s).toInt64 &&& 63)).toBitVec.getLsbD 0 = zlbit x s := by
  rw [Int64.toBitVec_shiftRight, zlsmod hs]
  unfold zlbit
  rw [BitVec.sshiftRight', BitVec.toNat_ofNat, Nat.mod_eq_of_lt (show s < 2 ^ 64 by omega), BitVec.getLsbD_sshiftRight]
  simp [hs]
theorem zlbit_1 {t : Nat} (ht : t < 64) : zlbit 1 t = decide (t = 0) := by
  have : ∀ t : Fin 64, zlbit 1 t.val = decide (t.val = 0) := by decide +kernel
  exact this ⟨t, ht⟩
theorem zlbit_ext {a b : Int64} (h : ∀ s, s < 64 → zlbit a s = zlbit b s) : a = b := by
  apply Int64.toBitVec_inj.mp
  apply BitVec.eq_of_getLsbD_eq
  intro i hi
  exact h i hi
theorem zlbit_low {x : Int64} : (x &&& 1 = 1) ↔ zlbit x 0 = true := by
  constructor
  · intro h
    have h1 : zlbit (x &&& 1) 0 = true := by rw [h, zlbit_1 (by decide)]; rfl
    rw [zlbit_and, Bool.and_eq_true] at h1
    exact h1.1
  · intro h
    apply zlbit_ext
    intro s hs
    rw [zlbit_and, zlbit_1 hs]
    by_cases h0 : s = 0
    · subst h0; simp [h]
    · simp [h0]
theorem zlbt {x : Int64} {s : Nat} (hs : s < 64) : (x >>> ((nI s).toInt64 &&& 63) &&& 1 = 1) ↔ zlbit x s = true := by
  rw [zlbit_low]
  show (x >>> ((nI s).toInt64 &&& 63)).toBitVec.getLsbD 0 = true ↔ _
  rw [zlbit_shr hs]

theorem zKid_ag {r s : zS} (h : zAg r s) {p k : Nat} : zKid r p k ↔ zKid s p k := by
  unfold zKid; rw [h 0 (by decide), h 1 (by decide), h 7 (by decide)]
theorem zRep_ag {r s : zS} (h : zAg r s) {p k : Nat} : zRep r p k ↔ zRep s p k := by
  unfold zRep; rw [zKid_ag h, h 4 (by decide), h 8 (by decide), h 5 (by decide), h 17 (by decide)]
theorem zBest_ag {r s : zS} (h : zAg r s) {p n : Nat} : zBest r p n = zBest s p n := by
  unfold zBest
  congr 1
  funext k
  exact decide_eq_decide.mpr (zRep_ag h)
theorem zEnds_ag {r s : zS} (h : zAg r s) {p : Nat} {a b c : Int32} : zAg (zEnds r p a b c) (zEnds s p a b c) := zAg_zu (zAg_zu (zAg_zu (zAg_zu h)))
theorem zCheck_ag {r s : zS} (h : zAg r s) {p : Nat} : zAg (zCheck r p) (zCheck s p) := by
  by_cases hi : r 6 p = 0 ∨ r 5 p ≠ 0
  · have hi2 : s 6 p = 0 ∨ s 5 p ≠ 0 := by rw [← h 6 (by decide), ← h 5 (by decide)]; exact hi
    rw [zCheck_idle hi, zCheck_idle hi2]
    exact h
  · have hi2 : ¬ (s 6 p = 0 ∨ s 5 p ≠ 0) := by rw [← h 6 (by decide), ← h 5 (by decide)]; exact hi
    unfold zCheck
    rw [if_neg hi, if_neg hi2, zBest_ag h]
    cases zBest s p 41 with
    | none =>
      show zAg (if ∀ k, k < 41 → ¬ zKid r p k then zEnds r p 4 (-1) (-1) else r) (if ∀ k, k < 41 → ¬ zKid s p k then zEnds s p 4 (-1) (-1) else s)
      have e : (∀ k, k < 41 → ¬ zKid r p k) ↔ ∀ k, k < 41 → ¬ zKid s p k := by simp only [zKid_ag h]
      by_cases hk : ∀ k, k < 41 → ¬ zKid r p k
      · rw [if_pos hk, if_pos (e.mp hk)]; exact zEnds_ag h
      · rw [if_neg hk, if_neg (fun q => hk (e.mpr q))]; exact h
    | some k =>
      show zAg (if r 4 k ≠ 0 then zu (zEnds r p (r 14 k) (nI k) (r 15 k)) 0 k 0 else zu (zEnds r p 2 (nI k) (r 16 k)) 17 k 0) (if s 4 k ≠ 0 then zu (zEnds s p (s 14 k) (nI k) (s 15 k)) 0 k 0 else zu (zEnds s p 2 (nI k) (s 16 k)) 17 k 0)
      rw [h 4 (by decide), h 14 (by decide), h 15 (by decide), h 16 (by decide)]
      split
      · exact zAg_zu (zEnds_ag h)
      · exact zAg_zu (zEnds_ag h)
theorem zDie_ag {r s : zS} (h : zAg r s) {p : Nat} {a b : Int32} : zAg (zDie r p a b) (zDie s p a b) := zAg_zu (zAg_zu (zAg_zu (zAg_zu (zAg_zu (zAg_zu h)))))
theorem zHandN_ag {r s : zS} (h : zAg r s) {p k n : Nat} : zAg (zHandN r p k n) (zHandN s p k n) := by
  intro f hf
  funext j
  unfold zHandN
  rw [h 0 (by decide), h 1 (by decide), h f hf]
theorem zT2_ag {r s : zS} (h : zAg r s) {p : Nat} {a b : Int32} : zAg (zT2 r p a b) (zT2 s p a b) := by
  unfold zT2
  have hd := zDie_ag h (p := p) (a := a) (b := b)
  rw [zHeir_ag (hd 1 (by decide)) (hd 4 (by decide)) (hd 13 (by decide)), h 1 (by decide)]
  exact zHandN_ag hd
theorem zTm_ag {r s : zS} (h : zAg r s) {p : Nat} : zTm r p ↔ zTm s p := by unfold zTm; rw [h 3 (by decide), h 21 (by decide)]
theorem zT3_ag {r s : zS} (h : zAg r s) {p : Nat} {a b : Int32} : zAg (zT3 r p a b) (zT3 s p a b) := by
  by_cases ht : zTm r p
  · rw [zT3_if ht, zT3_if ((zTm_ag h).mp ht)]
    exact zAg_zu (zAg_zu (zT2_ag h))
  · rw [zT3_no ht, zT3_no (fun q => ht ((zTm_ag h).mpr q))]
    exact zT2_ag h
theorem zTq_ag {r s : zS} (h : zAg r s) {p : Nat} {a b : Int32} : zTq r p a b = zTq s p a b := by
  unfold zTq
  have e1 : zTq1 r p a b = zTq1 s p a b := by
    by_cases ht : zTm r p
    · rw [zTq1_if ht, zTq1_if ((zTm_ag h).mp ht), zSends_ag (zT2_ag h), h 22 (by decide)]
    · rw [zTq1_no ht, zTq1_no (fun q => ht ((zTm_ag h).mpr q))]
  have e2 : zTq2 r p 41 = zTq2 s p 41 := by
    unfold zTq2
    congr 2
    funext k
    exact decide_eq_decide.mpr (by unfold zWasZ; rw [h 0 (by decide), h 1 (by decide), h 4 (by decide)])
  have e3 : zTq3 r (zT3 r p a b) 41 = zTq3 s (zT3 s p a b) 41 := by
    unfold zTq3
    congr 1
    funext g
    have e4 : zNewO r (zT3 r p a b) g ↔ zNewO s (zT3 s p a b) g := by
      unfold zNewO
      rw [zOrph_ag h, zOrph_ag (zT3_ag h), zStopd_ag (zT3_ag h)]
    by_cases hn : zNewO r (zT3 r p a b) g
    · rw [if_pos hn, if_pos (e4.mp hn), zSends_ag (zT3_ag h), zSends_ag (zT3_ag h)]
    · rw [if_neg hn, if_neg (fun q => hn (e4.mpr q))]
  rw [e1, e2, e3]
/-- a process that may end: what the reference needs for it -/
def zLv (σ : zS) (p : Nat) : Prop := zWm σ ∧ (∀ k, k < 41 → σ 0 k ≠ 0 → ∃ g, σ 2 k = nI g ∧ 1 ≤ g ∧ g < 41) ∧ (1 ≤ p ∧ p < 41) ∧ ∃ j, σ 1 p = nI j ∧ j ≠ p ∧ zAnc 39 σ j
theorem zLv.ag {σ τ : zS} {p : Nat} (h : zLv σ p) (h0 : τ 0 = σ 0) (h1 : τ 1 = σ 1) (h2 : τ 2 = σ 2) : zLv τ p := by
  obtain ⟨a1, a2, a3, j, a4, a5, a6⟩ := h
  refine ⟨?_, ?_, a3, j, by rw [h1]; exact a4, a5, a6.ag h0.symm h1.symm⟩
  · unfold zWm; rw [h0, h1]; exact a1
  · rw [h0, h2]; exact a2
theorem zCatch_off {σ : zS} {p f : Nat} (hf : f ≠ 6 ∧ f ≠ 18 ∧ f ≠ 19 ∧ f ≠ 20 ∧ f ≠ 12) : zCatch σ p f = σ f := by
  unfold zCatch
  split
  · rw [zEnds_off ⟨hf.1, hf.2.1, hf.2.2.1, hf.2.2.2.1⟩, zu_off hf.2.2.2.2]
  · exact zu_off hf.2.2.2.2
theorem zEff_c {x : zS × List zEv} {p s : Nat} (h : zAct x.1 p s = 2) : zEff x p s = (zCatch x.1 p, x.2) := if_pos h
theorem zEff_o {x : zS × List zEv} {p s : Nat} (h : ¬ zAct x.1 p s = 2) (h2 : zAct x.1 p s = 0 ∧ s = 6) (h3 : zOrph x.1 (x.1 2 p)) : zEff x p s = x := by
  unfold zEff
  rw [if_neg h, if_pos h2, if_pos h3]
theorem zEff_s {x : zS × List zEv} {p s : Nat} (h : ¬ zAct x.1 p s = 2) (h2 : zAct x.1 p s = 0 ∧ s = 6) (h3 : ¬ zOrph x.1 (x.1 2 p)) : zEff x p s = zStop x p 6 := by
  unfold zEff
  rw [if_neg h, if_pos h2, if_neg h3]
theorem zEff_t {x : zS × List zEv} {p s : Nat} (h2 : zAct x.1 p s = 0) (h3 : s ≠ 6) : zEff x p s = zTerm x p 1 (nI s) := by
  unfold zEff
  rw [if_neg (by rw [h2]; decide), if_neg (fun q => h3 q.2), if_pos h2]
theorem zEff_i {x : zS × List zEv} {p s : Nat} (h : ¬ zAct x.1 p s = 2) (h2 : ¬ zAct x.1 p s = 0) : zEff x p s = x := by
  unfold zEff
  rw [if_neg h, if_neg (fun q => h2 q.1), if_neg h2]
theorem zEff_cases (x : zS × List zEv) (p s : Nat) : zEff x p s = (zCatch x.1 p, x.2) ∨ zEff x p s = x ∨ zEff x p s = zStop x p 6 ∨ zEff x p s = zTerm x p 1 (nI s) := by
  by_cases h : zAct x.1 p s = 2
  · exact Or.inl (zEff_c h)
  · by_cases h2 : zAct x.1 p s = 0
    · by_cases h6 : s = 6
      · by_cases ho : zOrph x.1 (x.1 2 p)
        · exact Or.inr (Or.inl (zEff_o h ⟨h2, h6⟩ ho))
        · exact Or.inr (Or.inr (Or.inl (zEff_s h ⟨h2, h6⟩ ho)))
      · exact Or.inr (Or.inr (Or.inr (zEff_t h2 h6)))
    · exact Or.inr (Or.inl (zEff_i h h2))
theorem zStop_off {x : zS × List zEv} {p s f : Nat} (hf : f ≠ 5 ∧ f ≠ 16 ∧ f ≠ 17) : (zStop x p s).1 f = x.1 f := by
  unfold zStop
  simp only []
  rw [zu_off hf.2.2, zu_off hf.2.1, zu_off hf.1]
theorem zStop_5 {x : zS × List zEv} {p s : Nat} : (zStop x p s).1 5 p = 1 := by
  unfold zStop
  simp only []
  rw [zu_off (by decide), zu_off (by decide), zu_self]
theorem zT3_4 {σ : zS} {p : Nat} {a b : Int32} : zT3 σ p a b 4 p = 1 := by
  rw [zT3_off (by decide)]
  unfold zT2
  rw [zHandN_off (by decide)]
  simp [zDie, zu]
theorem zT3_11 {σ : zS} {p : Nat} {a b : Int32} : zT3 σ p a b 11 p = 0 := by
  rw [zT3_off (by decide)]
  unfold zT2
  rw [zHandN_off (by decide)]
  simp [zDie, zu]
theorem zT3_56 {σ : zS} {p : Nat} {a b : Int32} : zT3 σ p a b 5 p = 0 ∧ zT3 σ p a b 6 p = 0 := by
  rw [zT3_off (by decide), zT3_off (by decide)]
  unfold zT2
  rw [zHandN_off (by decide), zHandN_off (by decide)]
  simp [zDie, zu]
/-- the rest of a delivery, from signal k on -/
def zDfrom (p : Nat) (x : zS × List zEv) (k : Nat) : zS × List zEv := ((List.range' k (9 - k)).foldl (zDstep p) x)
theorem zDfrom_9 {p : Nat} {x : zS × List zEv} : zDfrom p x 9 = x := rfl
theorem zDfrom_0 {p : Nat} {x : zS × List zEv} : zDfrom p x 0 = zDfold p x 9 := by
  unfold zDfrom zDfold
  rw [List.range_eq_range']
theorem zDfrom_step {p : Nat} {x : zS × List zEv} {k : Nat} (h : k < 9) : zDfrom p x k = zDfrom p (zDstep p x k) (k + 1) := by
  unfold zDfrom
  rw [show 9 - k = (9 - (k + 1)) + 1 by omega, List.range'_succ]
  rfl
theorem zDstep_no {p : Nat} {x : zS × List zEv} {s : Nat} (h : ¬ (x.1 4 p = 0 ∧ x.1 5 p = 0 ∧ zOpen x.1 p &&& zSh s ≠ 0)) : zDstep p x s = x := if_neg h
theorem zDstep_yes {p : Nat} {x : zS × List zEv} {s : Nat} (h : x.1 4 p = 0 ∧ x.1 5 p = 0 ∧ zOpen x.1 p &&& zSh s ≠ 0) : zDstep p x s = zEff (zu x.1 11 p (zClr (x.1 11 p) s), x.2) p s := if_pos h
theorem zDfrom_skip {p : Nat} {x : zS × List zEv} : ∀ {n k : Nat}, k + n ≤ 9 → (∀ s, k ≤ s → s < k + n → ¬ (x.1 4 p = 0 ∧ x.1 5 p = 0 ∧ zOpen x.1 p &&& zSh s ≠ 0)) → zDfrom p x k = zDfrom p x (k + n)
  | 0, k, _, _ => rfl
  | n + 1, k, hk, h => by
    rw [zDfrom_step (by omega), zDstep_no (h k (Nat.le_refl _) (by omega))]
    have := zDfrom_skip (p := p) (x := x) (n := n) (k := k + 1) (by omega) (fun s h1 h2 => h s (by omega) (by omega))
    rw [this]
    congr 1
    omega
theorem zDfrom_end {p : Nat} {x : zS × List zEv} {k : Nat} (hk : k ≤ 9) (h : ∀ s, k ≤ s → s < 9 → ¬ (x.1 4 p = 0 ∧ x.1 5 p = 0 ∧ zOpen x.1 p &&& zSh s ≠ 0)) : zDfrom p x k = x := by
  have := zDfrom_skip (p := p) (x := x) (n := 9 - k) (k := k) (by omega) (fun s h1 h2 => h s h1 (by omega))
  rw [this, show k + (9 - k) = 9 by omega]
  rfl

theorem zEff_0 (x : zS × List zEv) (p s f : Nat) (hf : f = 0 ∨ f = 10 ∨ f = 2 ∨ f = 3 ∨ f = 9) : (zEff x p s).1 f = x.1 f := by
  rcases zEff_cases x p s with h | h | h | h <;> rw [h]
  · exact zCatch_off (by omega)
  · exact zStop_off (by omega)
  · show zT3 x.1 p 1 (nI s) f = _
    rw [zT3_off (by omega), zT2_off (by omega)]
theorem zCont_7 {σ : zS} {p s : Nat} (h : s = 7) : zCont σ p s = zu (zu (zu σ 11 p (zClr (σ 11 p) 6)) 17 p (zb (σ 17 p ≠ 0 ∧ σ 5 p = 0))) 5 p 0 := if_pos h
theorem zCont_56 {σ : zS} {p s : Nat} (h7 : ¬ s = 7) (h : s = 5 ∨ s = 6) : zCont σ p s = zu σ 11 p (zClr (σ 11 p) 7) := by
  unfold zCont
  rw [if_neg h7, if_pos h]
theorem zCont_o {σ : zS} {p s : Nat} (h7 : ¬ s = 7) (h : ¬ (s = 5 ∨ s = 6)) : zCont σ p s = σ := by
  unfold zCont
  rw [if_neg h7, if_neg h]
theorem zCont_off {σ : zS} {p s f : Nat} (hf : f ≠ 11 ∧ f ≠ 17 ∧ f ≠ 5) : zCont σ p s f = σ f := by
  unfold zCont
  split
  · rw [zu_off hf.2.2, zu_off hf.2.1, zu_off hf.1]
  · split
    · exact zu_off hf.1
    · rfl
theorem zClr_511 {x : Int32} {s : Nat} (hs : s < 32) (h : x &&& 511 = x) : zClr x s &&& 511 = zClr x s := zbit_small (fun t ht hb => by
  rw [zbit_clr hs ht, Bool.and_eq_true] at hb
  exact zbit_9 h ht hb.1)
theorem zTake_2 {x : zS × List zEv} {p s : Nat} (h : s = 2) : zTake x p s = zTerm x p 1 2 := if_pos h
theorem zTake_5s {x : zS × List zEv} {p s : Nat} (h : s = 5) (h5 : x.1 5 p = 0) : zTake x p s = zStop x p 5 := by
  unfold zTake
  rw [if_neg (by rw [h]; decide), if_pos h, if_pos h5]
theorem zTake_5 {x : zS × List zEv} {p s : Nat} (h : s = 5) (h5 : ¬ x.1 5 p = 0) : zTake x p s = x := by
  unfold zTake
  rw [if_neg (by rw [h]; decide), if_pos h, if_neg h5]
theorem zTake_p {x : zS × List zEv} {p s : Nat} (h2 : ¬ s = 2) (h5 : ¬ s = 5) (hh : zHeed x.1 p s) : zTake x p s = (zu x.1 11 p (x.1 11 p ||| zSh s), x.2) := by
  unfold zTake
  rw [if_neg h2, if_neg h5, if_pos hh]
theorem zTake_n {x : zS × List zEv} {p s : Nat} (h2 : ¬ s = 2) (h5 : ¬ s = 5) (hh : ¬ zHeed x.1 p s) : zTake x p s = x := by
  unfold zTake
  rw [if_neg h2, if_neg h5, if_neg hh]
theorem zTake_cases (x : zS × List zEv) (p s : Nat) : zTake x p s = zTerm x p 1 2 ∨ zTake x p s = zStop x p 5 ∨ zTake x p s = x ∨ zTake x p s = (zu x.1 11 p (x.1 11 p ||| zSh s), x.2) := by
  by_cases h2 : s = 2
  · exact Or.inl (zTake_2 h2)
  · by_cases h5 : s = 5
    · by_cases hs : x.1 5 p = 0
      · exact Or.inr (Or.inl (zTake_5s h5 hs))
      · exact Or.inr (Or.inr (Or.inl (zTake_5 h5 hs)))
    · by_cases hh : zHeed x.1 p s
      · exact Or.inr (Or.inr (Or.inr (zTake_p h2 h5 hh)))
      · exact Or.inr (Or.inr (Or.inl (zTake_n h2 h5 hh)))
theorem zTake_0 {x : zS × List zEv} {p s f : Nat} (hf : f = 0 ∨ f = 2 ∨ f = 3 ∨ f = 9 ∨ f = 10) : (zTake x p s).1 f = x.1 f := by
  rcases zTake_cases x p s with h | h | h | h <;> rw [h]
  · show zT3 x.1 p 1 2 f = _
    rw [zT3_off (by omega), zT2_off (by omega)]
  · exact zStop_off (by omega)
  · exact zu_off (by omega)
theorem zComes_no {x : zS × List zEv} {p s : Nat} (h : x.1 0 p = 0 ∨ x.1 4 p ≠ 0 ∨ p = 1) : zComes x p s = x := if_pos h
theorem zComes_yes {x : zS × List zEv} {p s : Nat} (h : ¬ (x.1 0 p = 0 ∨ x.1 4 p ≠ 0 ∨ p = 1)) : zComes x p s = zDel (zTake (zCont x.1 p s, x.2) p s) p := if_neg h
theorem zTell_1 {x : zS × List zEv} {j : Nat} (h : j = 1) : zTell x j = x := if_pos h
theorem zTell_n {x : zS × List zEv} {j : Nat} (h : ¬ j = 1) : zTell x j = (zCheck x.1 j, x.2 ++ [(4, j)]) := if_neg h
theorem zOver_no {x : zS × List zEv} {p : Nat} (h : x.1 0 p = 0) : zOver x p = x := if_pos h
theorem zOver_yes {x : zS × List zEv} {p j : Nat} (h : ¬ x.1 0 p = 0) (hj : pn (x.1 1 p) = j) : zOver x p = zTell (if j = 1 ∨ zAct x.1 j 4 = 1 then zu x.1 0 p 0 else x.1, x.2) j := by
  unfold zOver
  rw [if_neg h, hj]
theorem zStands_no {x : zS × List zEv} {p : Nat} (h : ¬ (x.1 0 p ≠ 0 ∧ x.1 5 p ≠ 0)) : zStands x p = x := if_neg h
theorem zStands_yes {x : zS × List zEv} {p : Nat} (h : x.1 0 p ≠ 0 ∧ x.1 5 p ≠ 0) : zStands x p = zTell x (pn (x.1 1 p)) := if_pos h
theorem zEvent_9 {x : zS × List zEv} {e : zEv} (h : e.1 = 9) : zEvent x e = zOver x e.2 := if_pos h
theorem zEvent_10 {x : zS × List zEv} {e : zEv} (h : e.1 = 10) : zEvent x e = zStands x e.2 := by
  unfold zEvent
  rw [if_neg (by rw [h]; decide), if_pos h]
theorem zEvent_s {x : zS × List zEv} {e : zEv} (h : e.1 < 9) : zEvent x e = zComes x e.2 e.1 := by
  unfold zEvent
  rw [if_neg (by omega), if_neg (by omega)]
/-- what a run needs, as long as n events at most are to come -/
def zRun : Nat → zS → List zEv → Prop
  | _, _, [] => True
  | 0, _, _ :: _ => False
  | n + 1, σ, e :: q => zEvOk e ∧ σ 0 0 = 0 ∧ (σ 0 e.2 ≠ 0 → σ 4 e.2 = 0 → e.2 ≠ 1 → zLv σ e.2) ∧ σ 11 e.2 &&& 511 = σ 11 e.2 ∧ (9 ≤ e.1 → ¬ σ 0 e.2 = 0 → ∃ j, σ 1 e.2 = nI j ∧ 1 ≤ j ∧ j < 41) ∧ q.length + 300 < 8192 ∧ zRun n (zEvent (σ, q) e).1 (zEvent (σ, q) e).2
def zE1 (a : Prop) [Decidable a] : Int32 := if a then 1 else 0
def zE2 (a b : Prop) [Decidable a] [Decidable b] : Int32 := if a then 1 else if b then 2 else 0
def zE3 (a b c : Prop) [Decidable a] [Decidable b] [Decidable c] : Int32 := if a then 1 else if b then 2 else if c then 3 else 0
theorem zE1_1 {a : Prop} [Decidable a] (h : a) : zE1 a = 1 := if_pos h
theorem zE1_0 {a : Prop} [Decidable a] (h : ¬ a) : zE1 a = 0 := if_neg h
theorem zE2_1 {a b : Prop} [Decidable a] [Decidable b] (h : a) : zE2 a b = 1 := if_pos h
theorem zE2_2 {a b : Prop} [Decidable a] [Decidable b] (h : ¬ a) (h2 : b) : zE2 a b = 2 := by unfold zE2; rw [if_neg h, if_pos h2]
theorem zE2_0 {a b : Prop} [Decidable a] [Decidable b] (h : ¬ a) (h2 : ¬ b) : zE2 a b = 0 := by unfold zE2; rw [if_neg h, if_neg h2]
theorem zE3_1 {a b c : Prop} [Decidable a] [Decidable b] [Decidable c] (h : a) : zE3 a b c = 1 := if_pos h
theorem zE3_2 {a b c : Prop} [Decidable a] [Decidable b] [Decidable c] (h : ¬ a) (h2 : b) : zE3 a b c = 2 := by unfold zE3; rw [if_neg h, if_pos h2]
theorem zE3_3 {a b c : Prop} [Decidable a] [Decidable b] [Decidable c] (h : ¬ a) (h2 : ¬ b) (h3 : c) : zE3 a b c = 3 := by unfold zE3; rw [if_neg h, if_neg h2, if_pos h3]
theorem zE3_0 {a b c : Prop} [Decidable a] [Decidable b] [Decidable c] (h : ¬ a) (h2 : ¬ b) (h3 : ¬ c) : zE3 a b c = 0 := by unfold zE3; rw [if_neg h, if_neg h2, if_neg h3]
theorem zbn {a : Prop} [Decidable a] (h : ¬ zb a ≠ 0) : ¬ a := zb_eq.mp (Classical.not_not.mp h)
theorem zbp {a : Prop} [Decidable a] (h : ¬ zb a = 0) : a := zb_ne.mp h
abbrev zHere (σ : zS) (x : Int32) : Prop := 0 < x ∧ x ≤ 40 ∧ σ 0 (pn x) ≠ 0
abbrev zRunN (σ : zS) (k : Nat) : Prop := σ 4 k = 0 ∧ σ 5 k = 0 ∧ σ 6 k = 0
abbrev zNot (σ : zS) (k : Nat) : Prop := k = 1 ∨ ¬ zRunN σ k
theorem zIn40 {x : Int32} (h1 : ¬ x < 1) (h2 : ¬ (40 : Int32) < x) : x = nI (pn x) ∧ 1 ≤ pn x ∧ pn x < 41 := by
  have h0 : ¬ x ≤ 0 := fun q => h1 (Int32.lt_of_le_of_lt q (by decide))
  have h3 := zin40 h0 h2
  refine ⟨h3.1, ?_, h3.2⟩
  have h4 : pn x ≠ 0 := fun q => by
    have := h3.1
    rw [q] at this
    exact h1 (by rw [this]; decide)
  omega
def zCon (σ : zS) (k : Nat) : Int32 := if σ 4 k ≠ 0 then 3 else if σ 5 k ≠ 0 then 2 else if σ 6 k ≠ 0 then 1 else 0
def zCnt (σ : zS) (n : Nat) : Nat := ((List.range n).filter (fun k => decide (σ 0 k ≠ 0))).length
theorem zCnt_yes {σ : zS} {n : Nat} (h : σ 0 n ≠ 0) : zCnt σ (n + 1) = zCnt σ n + 1 := by
  unfold zCnt
  rw [List.range_succ, List.filter_append, List.filter_cons, if_pos (decide_eq_true h), List.filter_nil, List.length_append]
  rfl
theorem zCnt_no {σ : zS} {n : Nat} (h : ¬ σ 0 n ≠ 0) : zCnt σ (n + 1) = zCnt σ n := by
  unfold zCnt
  rw [List.range_succ, List.filter_append, List.filter_cons, if_neg (by rw [decide_eq_true_eq]; exact h), List.filter_nil, List.append_nil]
abbrev zWset (σ : zS) (p : Nat) (c f : Int32) : zS := zu (zu (zu σ 6 p 1) 7 p c) 8 p f
abbrev zIsIn (σ : zS) (g ss : Int32) (n : Nat) : Prop := ¬ ∀ k, k < n → ¬ (zMem σ k g ∧ σ 3 k = ss)
abbrev zIsGrp (σ : zS) (g : Int32) (n : Nat) : Prop := ¬ ∀ k, k < n → ¬ (σ 0 k ≠ 0 ∧ σ 2 k = g)
abbrev zPoss (σ : zS) (p t : Nat) (g : Int32) : Prop := (t = p ∨ σ 1 t = nI p) ∧ σ 4 t = 0 ∧ σ 3 t ≠ nI t ∧ σ 3 t = σ 3 p ∧ (g = nI t ∨ zIsIn σ g (σ 3 p) 41)
abbrev zFin (N : Nat) (x : zS × List zEv) : zS := zGo N x.1 x.2
theorem zs9 {s : Int32} (h0 : ¬ s < 0) (h : s < 9) : s = nI (pn s) ∧ pn s < 9 := by
  obtain ⟨j, hj, rfl⟩ := nI_of h0
  have e : pn (nI j) = j := nI_clamp hj
  have h2 : nI j < nI 9 := h
  have := (nI_ltI hj (by decide)).mp h2
  rw [e]
  exact ⟨rfl, by omega⟩
def zRunX (N : Nat) (X : zS × List zEv) : Prop := ∀ (s : zS) (q : List zEv), X = (s, q) → zRun N s q
def zMk (σ : zS) (p : Nat) (c : Int32) : zS := zu σ 10 p (c &&& (-37))
theorem zFind_some {P : Nat → Bool} {b : Nat} : ∀ {n : Nat}, b < n → P b = true → (∀ k, k < b → P k = false) → (List.range n).find? P = some b
  | 0, h, _, _ => absurd h (by omega)
  | n + 1, h, hr, hl => by
    rw [List.range_succ, List.find?_append]
    by_cases hb : b < n
    · rw [zFind_some (n := n) hb hr hl]
      rfl
    · have hbn : b = n := by omega
      subst hbn
      have h9 : (List.range b).find? P = none := by
        rw [List.find?_eq_none]
        intro k hk
        rw [hl k (List.mem_range.mp hk)]
        decide
      rw [h9, List.find?_cons, hr]
      rfl
abbrev zTk (σ : zS) (i k : Nat) : Prop := σ 0 k ≠ 0 ∧ (σ 2 k = nI i ∨ σ 3 k = nI i)
abbrev zFreeN (σ : zS) (i n : Nat) : Prop := σ 0 i = 0 ∧ ∀ k, k < n → ¬ zTk σ i k
def zFreeV (σ : zS) : Int32 := match (List.range 41).find? (fun k => decide (1 ≤ k ∧ zFreeN σ k 41)) with
  | none => -1
  | some k => nI k
theorem zFreeV_at {σ : zS} (h : ¬ zFreeV σ = -1) : zFreeV σ = nI (pn (zFreeV σ)) ∧ 1 ≤ pn (zFreeV σ) ∧ pn (zFreeV σ) < 41 ∧ zFreeN σ (pn (zFreeV σ)) 41 := by
  unfold zFreeV at h ⊢
  cases hf : (List.range 41).find? (fun k => decide (1 ≤ k ∧ zFreeN σ k 41)) with
  | none => rw [hf] at h; exact absurd rfl h
  | some b =>
    have h1 := List.find?_some hf
    have h2 := List.mem_range.mp (List.mem_of_find?_eq_some hf)
    rw [decide_eq_true_eq] at h1
    show nI b = nI (pn (nI b)) ∧ 1 ≤ pn (nI b) ∧ pn (nI b) < 41 ∧ zFreeN σ (pn (nI b)) 41
    rw [show pn (nI b) = b from nI_clamp (by omega)]
    exact ⟨rfl, h1.1, h2, h1.2⟩
def zForkA (τ : zS) (p f n : Nat) : zS := fun g j => if g = 9 ∧ 9 * f ≤ j ∧ j < 9 * f + n then τ 9 (9 * p + (j - 9 * f)) else τ g j
def zFork1 (σ : zS) (x : Int32) (f : Nat) : zS := zu (zu (zu (zu (zu (zu (zu σ 0 f 1) 1 f x) 2 f (σ 2 (pn x))) 3 f (σ 3 (pn x))) 4 f 0) 5 f 0) 6 f 0
def zFork3 (τ : zS) (p f : Nat) : zS := zu (zu (zu (zu (zu (zu (zu (zu τ 10 f (τ 10 p)) 11 f 0) 12 f 0) 13 f 0) 17 f 0) 18 f (-1)) 19 f (-1)) 20 f (-1)
def zFork (σ : zS) (x : Int32) (f : Nat) : zS := zFork3 (zForkA (zFork1 σ x f) (pn x) f 9) (pn x) f
theorem z99 : (9 : Int32) ≤ nI 9 := by decide
def zXst (p : Nat) (σ : zS) (k : Nat) : zS := if zAct σ p k = 2 then zu (zu σ 9 (9 * p + k) 0) 11 p (if k = 4 ∨ k = 7 then zClr (σ 11 p) k else σ 11 p) else σ
def zExecN (σ : zS) (p : Nat) : Nat → zS
  | 0 => σ
  | n + 1 => zXst p (zExecN σ p n) n
def zCatN (σ : zS) (p n : Nat) : Nat := ((List.range n).filter (fun k => decide (zAct σ p k = 2))).length
abbrev zOkA (s a : Int32) : Prop := ¬ s < 0 ∧ s < 9 ∧ s ≠ 2 ∧ s ≠ 5 ∧ ¬ a < 0 ∧ ¬ (2 : Int32) < a
def zSetA (σ : zS) (p : Nat) (s a : Int32) : zS := zu (zu σ 9 (9 * p + pn s) a) 11 p (if a = 1 ∨ (a = 0 ∧ (s = 4 ∨ s = 7)) then zClr (σ 11 p) (pn s) else σ 11 p)
def zR0 : zS := fun f _ => if f = 21 ∨ f = 22 then -1 else 0
def zInit : zS := zu (zu (zu (zu (zu (zu (zu zR0 0 1 1) 1 1 (-1)) 2 1 1) 3 1 1) 18 1 (-1)) 19 1 (-1)) 20 1 (-1)
