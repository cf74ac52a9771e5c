theorem zE1_z {a : Prop} [Decidable a] (h : zE1 a = 0) : ¬ a := fun q => by rw [zE1_1 q] at h; exact absurd h (by decide)
theorem zE2_z {a b : Prop} [Decidable a] [Decidable b] (h : zE2 a b = 0) : ¬ a ∧ ¬ b := by
  by_cases ha : a
  · rw [zE2_1 ha] at h; exact absurd h (by decide)
  · by_cases hb : b
    · rw [zE2_2 ha hb] at h; exact absurd h (by decide)
    · exact ⟨ha, hb⟩
theorem zE3_z {a b c : Prop} [Decidable a] [Decidable b] [Decidable c] (h : zE3 a b c = 0) : ¬ a ∧ ¬ b ∧ ¬ c := by
  by_cases ha : a
  · rw [zE3_1 ha] at h; exact absurd h (by decide)
  · by_cases hb : b
    · rw [zE3_2 ha hb] at h; exact absurd h (by decide)
    · by_cases hc : c
      · rw [zE3_3 ha hb hc] at h; exact absurd h (by decide)
      · exact ⟨ha, hb, hc⟩
/-! each public call of the script: what it does to the numbers is well-formed, or its events come to their end -/
theorem zN1 {σ : zS} {k : Nat} (h : ¬ zNot σ k) : k ≠ 1 ∧ σ 4 k = 0 := ⟨fun z => h (Or.inl z), (Classical.not_not.mp fun z => h (Or.inr z)).1⟩
theorem zG40 {g : Int32} (h : ¬ (g < 1 ∨ (40 : Int32) < g)) : ∃ k, g = nI k ∧ 1 ≤ k ∧ k < 41 := by
  have h0 : ¬ g ≤ 0 := fun z => h (Or.inl (by rw [Int32.lt_iff_toInt_lt]; rw [Int32.le_iff_toInt_le] at z; simp at z ⊢; omega))
  have h1 := zin40 h0 (fun z => h (Or.inr z))
  refine ⟨pn g, h1.1, ?_, h1.2⟩
  rcases Nat.eq_zero_or_pos (pn g) with q | q
  · rw [q] at h1
    exact absurd (by rw [h1.1]; decide) h0
  · exact q
theorem zX40 {σ : zS} {x : Int32} (h : zHere σ x) : ∃ g, x = nI g ∧ 1 ≤ g ∧ g < 41 := ⟨pn x, h.at.1, h.at.2.1, h.at.2.2⟩
theorem zk_fork {σ : zS} {x : Int32} (hW : zWf σ) (h : zE2 (¬ zHere σ x) (¬ zRunN σ (pn x) ∨ zFreeV σ = -1) = 0) : zWf (zFork σ x (pn (zFreeV σ))) := by
  obtain ⟨a, b⟩ := zE2_z h
  have hth := Classical.not_not.mp a
  have hr := Classical.not_not.mp (fun z => b (Or.inl z))
  obtain ⟨f, e, f1, f2, f3⟩ := zFree_at (fun z => b (Or.inr z))
  rw [e, show pn (nI f) = f from nI_clamp (by omega)]
  exact hW.fork hth.at.1 hth.2.2 hr.1 f1 f2 f3.1
theorem zk_exec {σ : zS} {x : Int32} (hW : zWf σ) (h : zE2 (¬ zHere σ x) (zNot σ (pn x)) = 0) : zWf (zExecN σ (pn x) 9) := hW.exec
theorem zk_exit {σ : zS} {x c : Int32} (hW : zWf σ) (h : zE3 (¬ zHere σ x) (c < 0 ∨ (255 : Int32) < c) (zNot σ (pn x)) = 0) : zReady 8300 (zTerm (σ, []) (pn x) 0 c) := by
  obtain ⟨a, b, d⟩ := zE3_z h
  have n := zN1 d
  exact zReady_term hW (Classical.not_not.mp a).2.2 n.1 n.2 (Or.inl rfl)
theorem zk_waitAny {σ : zS} {x f : Int32} (hW : zWf σ) (hf : f = 0 ∨ f = 1) (h : zE2 (¬ zHere σ x) (zNot σ (pn x)) = 0) : zWf (zCheck (zWset σ (pn x) (-1) f) (pn x)) := by
  have n := zN1 (zE2_z h).2
  exact hW.waits n.2 n.1 hf
theorem zk_waitFor {σ : zS} {x c f : Int32} (hW : zWf σ) (hf : f = 0 ∨ f = 1) (h : zE3 (¬ zHere σ x) (c < 1 ∨ (40 : Int32) < c) (zNot σ (pn x)) = 0) : zWf (zCheck (zWset σ (pn x) c f) (pn x)) := by
  have n := zN1 (zE3_z h).2.2
  exact hW.waits n.2 n.1 hf
theorem zk_setAction {σ : zS} {x s a : Int32} (hW : zWf σ) (h : zE3 (¬ zHere σ x) (¬ zOkA s a) (zNot σ (pn x)) = 0) : zWf (zSetA σ (pn x) s a) := by
  have k := Classical.not_not.mp (zE3_z h).2.1
  exact hW.setA (zs9 k.1 k.2.1).2 (zA012 k.2.2.2.2.1 k.2.2.2.2.2)
theorem zWf.mk {σ : zS} (h : zWf σ) {p : Nat} {c : Int32} : zWf (zMk σ p c) := h.own rfl rfl rfl rfl rfl rfl rfl rfl (fun k k0 k4 => h.2.2.1 k k0 k4) h.i h.b h.2.2.2.2.2.2.1
theorem zk_setMask {σ : zS} {x c : Int32} (hW : zWf σ) (h : zE3 (¬ zHere σ x) (c < 0 ∨ (511 : Int32) < c) (zNot σ (pn x)) = 0) : zReady 8300 (zDel (zMk σ (pn x) c, []) (pn x)) := by
  obtain ⟨a, b, d⟩ := zE3_z h
  exact zReady_del hW.mk (show σ 0 (pn x) ≠ 0 from (Classical.not_not.mp a).2.2) (zN1 d).1
theorem zk_beginSession {σ : zS} {x : Int32} (hW : zWf σ) (h : zE2 (¬ zHere σ x) (zNot σ (pn x) ∨ zIsGrp σ x 41) = 0) : zWf (zu (zu σ 3 (pn x) x) 2 (pn x) x) := by
  obtain ⟨a, b⟩ := zE2_z h
  have n := zN1 (fun z => b (Or.inl z))
  exact (hW.p3 n.1 (zX40 (Classical.not_not.mp a))).p2 n.1 (zX40 (Classical.not_not.mp a))
theorem zk_setGroup {σ : zS} {x t g : Int32} (hW : zWf σ) (h : zE3 (¬ zHere σ x ∨ ¬ zHere σ t) (g < 1 ∨ (40 : Int32) < g) (zNot σ (pn x) ∨ ¬ zPoss σ (pn x) (pn t) g) = 0) : zWf (zu σ 2 (pn t) g) := by
  obtain ⟨a, b, d⟩ := zE3_z h
  have k := Classical.not_not.mp (fun z => d (Or.inr z))
  refine hW.p2 (fun z => k.2.2.1 ?_) (zG40 b)
  rw [z]
  exact hW.2.2.2.2.1.2.2.2.1
theorem zk_setReaper {σ : zS} {x f : Int32} (hW : zWf σ) (hf : f = 0 ∨ f = 1) (h : zE2 (¬ zHere σ x) (zNot σ (pn x)) = 0) : zWf (zu σ 13 (pn x) f) := hW.p13 (zN1 (zE2_z h).2).1 hf
theorem zk_openTerminal {σ : zS} {x : Int32} (hW : zWf σ) (h : zE2 (¬ zHere σ x) (zNot σ (pn x) ∨ σ 3 (pn x) ≠ x ∨ σ 21 0 ≠ -1) = 0) : zWf (zu (zu σ 21 0 x) 22 0 (σ 2 (pn x))) := hW.top (zX40 (Classical.not_not.mp (zE2_z h).1))
theorem zk_setForeground {σ : zS} {x g : Int32} (hW : zWf σ) (h : zE3 (¬ zHere σ x) (g < 1 ∨ (40 : Int32) < g) (zNot σ (pn x) ∨ σ 3 (pn x) ≠ σ 21 0 ∨ ¬ zIsIn σ g (σ 3 (pn x)) 41) = 0) : zWf (zu σ 22 0 g) := hW.p22
theorem zk_send {σ : zS} {x s : Int32} (hW : zWf σ) (h : zE2 (¬ zHere σ x) (s < 0 ∨ ¬ s < 9) = 0) : zReady 8300 (σ, [(pn s, pn x)]) := by
  obtain ⟨a, b⟩ := zE2_z h
  exact zReady_one hW (zs9 (fun z => b (Or.inl z)) (Classical.not_not.mp (fun z => b (Or.inr z)))).2 (Classical.not_not.mp a).at.2
theorem zk_sendToGroup {σ : zS} {g s : Int32} (hW : zWf σ) (h : zE1 (g < 1 ∨ (40 : Int32) < g ∨ s < 0 ∨ ¬ s < 9) = 0) : zReady 8300 (σ, zSends σ g (pn s) 41) := by
  have b := zE1_z h
  exact zReady_sends hW (zs9 (fun z => b (Or.inr (Or.inr (Or.inl z)))) (Classical.not_not.mp (fun z => b (Or.inr (Or.inr (Or.inr z)))))).2
theorem zk_type {σ : zS} {f s : Int32} (hW : zWf σ) (hs : (f = 0 ∧ s = 1) ∨ (¬ f = 0 ∧ s = 6)) (h : zE1 (σ 21 0 = -1) = 0) : zReady 8300 (σ, zSends σ (σ 22 0) (pn s) 41) := by
  refine zReady_sends hW ?_
  rcases hs with ⟨_, rfl⟩ | ⟨_, rfl⟩ <;> decide
theorem zWf.t21 {σ : zS} (h : zWf σ) : σ 21 0 = -1 ∨ ∃ g, σ 21 0 = nI g ∧ 1 ≤ g ∧ g < 41 := h.2.2.2.2.2.2.2
theorem zk_hangUp {σ : zS} (hW : zWf σ) (h : zE1 (σ 21 0 = -1) = 0) : zReady 8300 (zFreeT σ, [(0, pn (σ 21 0))]) := by
  rcases hW.t21 with q | ⟨g, e, g1, g2⟩
  · exact absurd q (zE1_z h)
  · rw [e, show pn (nI g) = g from nI_clamp (by omega)]
    exact zReady_one hW.free (by decide) ⟨g1, g2⟩
/-- how far to run the events of a call: not at all, where it is refused -/
theorem zPick {TH : Int32} {X : zS × List zEv} {m0 : Nat} (h : TH = 0 → zReady 8300 X) : ∃ N, (TH = 0 → zReady N X) ∧ zW m0 (zCount N X.1 X.2) = zK (if TH = 0 then max m0 (zCount N X.1 X.2) else m0) - zK m0 ∧ m0 ≤ (if TH = 0 then max m0 (zCount N X.1 X.2) else m0) := by
  by_cases h0 : TH = 0
  · exact ⟨8300, fun _ => h h0, by rw [if_pos h0], by rw [if_pos h0]; exact Nat.le_max_left _ _⟩
  · refine ⟨0, fun z => absurd z h0, ?_, by rw [if_neg h0]; exact Nat.le_refl _⟩
    rw [if_neg h0]
    show zK (max m0 0) - zK m0 = zK m0 - zK m0
    rw [Nat.max_zero]
