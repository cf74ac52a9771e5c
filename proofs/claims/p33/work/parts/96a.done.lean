/-! isDone, whatever the script says: it answers true, and what the law asks is kept -/
abbrev zRmD (m0 m1 : Nat) : Room := { frames := 13, cells := 20 + (zK m1 - zK m0), slots := 120 + 4 * (zK m1 - zK m0), locals := 420 }
theorem zRmD_same {m : Nat} : zRmD m m = ({ frames := 13, cells := 20, slots := 120, locals := 420 } : Room) := by
  unfold zRmD
  rw [Nat.sub_self]
theorem zSg6 (f : Int32) : (f = 0 ∧ (if f = 0 then (1 : Int32) else 6) = 1) ∨ (¬ f = 0 ∧ (if f = 0 then (1 : Int32) else 6) = 6) := by
  by_cases h : f = 0
  · exact Or.inl ⟨h, if_pos h⟩
  · exact Or.inr ⟨h, if_neg h⟩
theorem zF01 (a : Int32) : (if a = 0 then (1 : Int32) else 0) = 0 ∨ (if a = 0 then (1 : Int32) else 0) = 1 := by
  by_cases h : a = 0
  · rw [if_pos h]; exact Or.inr rfl
  · rw [if_neg h]; exact Or.inl rfl
abbrev zDone (B : zG) (x : Nat) (σ : zS) (m0 : Nat) (D : va_G) (l : Launch) (G : zG) (b9 Ln t9 : Nat) (xs : Nat → Int32) : Prop :=
  ∃ (σ' : zS) (m1 : Nat), m0 ≤ m1 ∧ zIv 0 σ' [] ∧ zsMet D l yL_isDone wsL_isDone (zRmD m0 m1) [.ref x, .ref b9, .int (nI t9)] G b9 Ln xs (fun v G9 => v = some (.int 1) ∧ zLq B x σ' m1 G9) (fun _ => False)
theorem zDone_0 {B : zG} {x : Nat} {σ σ' : zS} {m0 : Nat} {D : va_G} {l : Launch} {G : zG} {b9 Ln t9 : Nat} {xs : Nat → Int32} (hI : zIv 0 σ' []) (h : zsMet D l yL_isDone wsL_isDone ({ frames := 13, cells := 20, slots := 120, locals := 420 } : Room) [.ref x, .ref b9, .int (nI t9)] G b9 Ln xs (fun v G9 => v = some (.int 1) ∧ zLq B x σ' m0 G9) (fun _ => False)) : zDone B x σ m0 D l G b9 Ln t9 xs := ⟨σ', m0, Nat.le_refl _, hI, by rw [zRmD_same]; exact h⟩
theorem zDone_e {B : zG} {x : Nat} {σ : zS} {m0 : Nat} {D : va_G} {l : Launch} {G : zG} {b9 Ln t9 : Nat} {xs : Nat → Int32} {X : zS × List zEv} (hI : zIv 0 (zFin 8300 X) []) (h : zsMet D l yL_isDone wsL_isDone ({ frames := 13, cells := 20 + zW m0 (zCount 8300 X.1 X.2), slots := 6 * 20 + 4 * zW m0 (zCount 8300 X.1 X.2), locals := 420 } : Room) [.ref x, .ref b9, .int (nI t9)] G b9 Ln xs (fun v G9 => v = some (.int 1) ∧ zLq B x (zFin 8300 X) (max m0 (zCount 8300 X.1 X.2)) G9) (fun _ => False)) : zDone B x σ m0 D l G b9 Ln t9 xs := ⟨zFin 8300 X, max m0 (zCount 8300 X.1 X.2), Nat.le_max_left _ _, hI, h⟩
theorem zKd_1 {σ : zS} (hW : zWf σ) {k : Nat} {c : Int32} {j : Nat} (hk : k < 41) (h : zKd σ k c j) : 1 < j := by
  have h1 := hW.in h.1
  have hj1 : j ≠ 1 := fun z => by
    have h2 := h.2.1
    rw [z, hW.x.2.1] at h2
    exact znm1 hk h2.symm
  omega
abbrev zPtt (D : va_G) (l : Launch) (G : zG) (b9 Ln k j n : Nat) (xs : Nat → Int32) : Prop := zsMet D l yL_part wsL_part ({ frames := 1, cells := 0, slots := 0, locals := 30 } : Room) [.ref b9, .int (nI k), .int (nI n)] G b9 Ln xs (fun v G9 => v = some (.int (nI j)) ∧ G9 = G) (fun _ => False)
