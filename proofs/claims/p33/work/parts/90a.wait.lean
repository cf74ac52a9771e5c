/-! the law's method around the waits -/
abbrev zKd (σ : zS) (k : Nat) (c : Int32) (j : Nat) : Prop := σ 0 j ≠ 0 ∧ σ 1 j = nI k ∧ (c < 0 ∨ c = nI j)
abbrev zKz (σ : zS) (k : Nat) (c : Int32) (j : Nat) : Prop := zKd σ k c j ∧ σ 4 j ≠ 0
abbrev zHd (σ : zS) (k : Nat) (c : Int32) (i : Nat) : Prop := ¬ ∀ j, j < 41 → i < j → ¬ zKd σ k c j
/-- the least zombie child above i, 99 if there is none -/
def zLs (σ : zS) (k : Nat) (c : Int32) (i : Nat) (w : Int32) : Prop := (w = 99 ∧ ∀ j, i < j → j < 41 → ¬ zKz σ k c j) ∨ ∃ b, w = nI b ∧ i < b ∧ b < 41 ∧ zKz σ k c b ∧ ∀ j, i < j → j < b → ¬ zKz σ k c j
theorem zLs_no {σ : zS} {k i : Nat} {c w : Int32} (h : zLs σ k c (i + 1) w) (hn : ¬ zKz σ k c (i + 1)) : zLs σ k c i w := by
  have step : ∀ j, i < j → j ≠ i + 1 → i + 1 < j := fun j h1 h2 => by omega
  rcases h with ⟨a, b⟩ | ⟨b, b1, b2, b3, b4, b5⟩
  · refine Or.inl ⟨a, fun j j1 j2 => ?_⟩
    by_cases hj : j = i + 1
    · rw [hj]; exact hn
    · exact b j (step j j1 hj) j2
  · refine Or.inr ⟨b, b1, by omega, b3, b4, fun j j1 j2 => ?_⟩
    by_cases hj : j = i + 1
    · rw [hj]; exact hn
    · exact b5 j (step j j1 hj) j2
theorem zLs_yes {σ : zS} {k i : Nat} {c : Int32} (hi : i + 1 < 41) (hn : zKz σ k c (i + 1)) : zLs σ k c i (nI (i + 1)) := Or.inr ⟨i + 1, rfl, by omega, hi, hn, fun j j1 j2 => by omega⟩
theorem zHd_no {σ : zS} {k i : Nat} {c : Int32} (h : ¬ zHd σ k c (i + 1)) (hn : ¬ zKd σ k c (i + 1)) : ¬ zHd σ k c i := fun z => z (fun j j1 j2 => by
  by_cases hj : j = i + 1
  · rw [hj]; exact hn
  · exact Classical.not_not.mp h j j1 (by omega))
theorem zHd_up {σ : zS} {k i : Nat} {c : Int32} (h : zHd σ k c (i + 1)) : zHd σ k c i := fun z => h (fun j j1 j2 => z j j1 (by omega))
theorem zHd_yes {σ : zS} {k i : Nat} {c : Int32} (hi : i + 1 < 41) (hn : zKd σ k c (i + 1)) : zHd σ k c i := fun z => z (i + 1) hi (by omega) hn
theorem z1d (n : Nat) : nI (n + 1) + Int32.ofInt (-1) = nI n := by
  rw [← z1i, Int32.add_assoc, show Int32.ofInt 1 + Int32.ofInt (-1) = 0 by decide, z0a]
theorem zBest_min {σ : zS} {p b : Nat} : ∀ {n : Nat}, zBest σ p n = some b → ∀ j, j < b → ¬ zRep σ p j
  | 0, h => by simp [zBest] at h
  | n + 1, h => by
    unfold zBest at h
    rw [List.range_succ, List.find?_append] at h
    cases hf : (List.range n).find? (fun k => decide (zRep σ p k)) with
    | some b' =>
      rw [hf] at h
      have hb : b' = b := Option.some.inj h
      rw [← hb]
      exact zBest_min (n := n) hf
    | none =>
      rw [hf, Option.none_or] at h
      have h1 := List.mem_of_find?_eq_some h
      rw [List.mem_singleton.mp h1]
      intro j hj hr
      rw [List.find?_eq_none] at hf
      exact hf j (List.mem_range.mpr hj) (decide_eq_true hr)
theorem zNegI {c : Int32} (h : c = -1 ∨ ∃ b, b < 42 ∧ c = nI b) : c < 0 ↔ c = -1 := by
  rcases h with rfl | ⟨b, hb, rfl⟩
  · decide
  · constructor
    · intro z; exact absurd z (nI_nlt (a := b) (b := 0) (by omega) (by omega))
    · intro z
      have h1 : (nI b).toInt = (b : Int) := nI_toInt (by omega)
      rw [z] at h1
      have h2 : (-1 : Int32).toInt = -1 := rfl
      rw [h2] at h1
      omega
/-- what a wait of a running process comes to -/
theorem zWaited {σ : zS} (hW : zWf σ) {k : Nat} {c f : Int32} (hc : c = -1 ∨ ∃ b, b < 42 ∧ c = nI b) (h0 : σ 0 k ≠ 0) (hk : k < 41) (hr : zRunN σ k) :
    (¬ zHd σ k c 1 ∧ zCheck (zWset σ k c f) k = zEnds (zWset σ k c f) k 4 (-1) (-1)) ∨
    (zHd σ k c 1 ∧ (∀ j, j < 41 → ¬ zKz σ k c j) ∧ zCheck (zWset σ k c f) k = zWset σ k c f) ∨
    (∃ b, 1 ≤ b ∧ b < 41 ∧ b ≠ k ∧ zHd σ k c 1 ∧ zKz σ k c b ∧ (∀ j, j < b → ¬ zKz σ k c j) ∧ zCheck (zWset σ k c f) k = zu (zEnds (zWset σ k c f) k (σ 14 b) (nI b) (σ 15 b)) 0 b 0) ∨
    (∃ b, 1 ≤ b ∧ b < 41 ∧ b ≠ k ∧ zHd σ k c 1 ∧ zKd σ k c b ∧ σ 4 b = 0 ∧ σ 5 b ≠ 0 ∧ f ≠ 0 ∧ (∀ j, j < b → ¬ zKz σ k c j) ∧ zCheck (zWset σ k c f) k = zu (zEnds (zWset σ k c f) k 2 (nI b) (σ 16 b)) 17 b 0) := by
  have w6 : zWset σ k c f 6 k = 1 := by simp [zu]
  have w7 : zWset σ k c f 7 k = c := by simp [zu]
  have w8 : zWset σ k c f 8 k = f := by simp [zu]
  have hkid : ∀ j, zKid (zWset σ k c f) k j ↔ zKd σ k c j := fun j => by
    show (σ 0 j ≠ 0 ∧ σ 1 j = nI k ∧ (zWset σ k c f 7 k = -1 ∨ zWset σ k c f 7 k = nI j)) ↔ (σ 0 j ≠ 0 ∧ σ 1 j = nI k ∧ (c < 0 ∨ c = nI j))
    rw [w7, zNegI hc]
  have hrep : ∀ j, zRep (zWset σ k c f) k j ↔ (zKd σ k c j ∧ (σ 4 j ≠ 0 ∨ (f ≠ 0 ∧ σ 5 j ≠ 0 ∧ σ 17 j ≠ 0))) := fun j => by
    show (zKid (zWset σ k c f) k j ∧ (σ 4 j ≠ 0 ∨ (zWset σ k c f 8 k ≠ 0 ∧ σ 5 j ≠ 0 ∧ σ 17 j ≠ 0))) ↔ _
    rw [w8, hkid]
  have k2 : ∀ j, zKd σ k c j → 1 < j ∧ j < 41 := fun j hj => by
    have h1 := hW.in hj.1
    have hj1 : j ≠ 1 := fun z => by
      have h2 := hj.2.1
      rw [z, hW.x.2.1] at h2
      exact znm1 hk h2.symm
    omega
  have hk9 : ∀ j, zKd σ k c j → j ≠ k := fun j hj z => by
    have hj2 := k2 j hj
    obtain ⟨i, i1, i2, i3, i4, i5, i6⟩ := hW.par hj.1 (by omega)
    rw [hj.2.1] at i1
    exact i4 (((nI_eq (by omega) (by omega)).mp i1).symm.trans z.symm)
  have hidle : ¬ (zWset σ k c f 6 k = 0 ∨ zWset σ k c f 5 k ≠ 0) := by
    rw [w6]
    exact fun z => z.elim (fun y => absurd y (by decide)) (fun y => y hr.2.1)
  have hz : ∀ b, (∀ j, j < b → ¬ zRep (zWset σ k c f) k j) → ∀ j, j < b → ¬ zKz σ k c j := fun b hb j hj y => hb j hj ((hrep j).mpr ⟨y.1, Or.inl y.2⟩)
  unfold zCheck
  rw [if_neg hidle]
  cases hb : zBest (zWset σ k c f) k 41 with
  | none =>
    have hall : ∀ j, j < 41 → ¬ zRep (zWset σ k c f) k j := fun j hj hr9 => by
      unfold zBest at hb
      rw [List.find?_eq_none] at hb
      exact hb j (List.mem_range.mpr hj) (decide_eq_true hr9)
    show (_ ∧ (if ∀ j, j < 41 → ¬ zKid (zWset σ k c f) k j then zEnds (zWset σ k c f) k 4 (-1) (-1) else zWset σ k c f) = _) ∨ (_ ∧ _ ∧ (if ∀ j, j < 41 → ¬ zKid (zWset σ k c f) k j then zEnds (zWset σ k c f) k 4 (-1) (-1) else zWset σ k c f) = _) ∨ _
    by_cases hh : zHd σ k c 1
    · refine Or.inr (Or.inl ⟨hh, hz 41 hall, if_neg (fun z => hh (fun j j1 j2 y => z j j1 ((hkid j).mpr y)))⟩)
    · refine Or.inl ⟨hh, if_pos (fun j j1 y => hh (fun z => z j j1 (k2 j ((hkid j).mp y)).1 ((hkid j).mp y)))⟩
  | some b =>
    obtain ⟨b1, b2⟩ := zBest_at hb
    have bm := hz b (zBest_min hb)
    have b3 := (hrep b).mp b1
    have b4 := k2 b b3.1
    have hh : zHd σ k c 1 := fun z => z b b2 b4.1 b3.1
    by_cases h4 : σ 4 b ≠ 0
    · refine Or.inr (Or.inr (Or.inl ⟨b, by omega, b2, hk9 b b3.1, hh, ⟨b3.1, h4⟩, bm, ?_⟩))
      exact if_pos h4
    · have b5 := b3.2.resolve_left h4
      refine Or.inr (Or.inr (Or.inr ⟨b, by omega, b2, hk9 b b3.1, hh, b3.1, Classical.not_not.mp h4, b5.2.1, b5.1, bm, ?_⟩))
      exact if_neg h4
set_option maxHeartbeats 4000000 in
set_option maxRecDepth 100000 in
theorem t_L_isWaited (l : Launch) (D : va_G) {B G : zG} {x tb ev : Nat} {A : Nat → Nat} {σ : zS} {m0 : Nat} (hC : zCl B x tb ev A σ [] 0 m0 G) {p : Program} {e : Env} {s : State} {m : MethodId} {args : Array Value} {below : List Frame} {meth : Method} {c : Code} {Q : State → Prop} (C : zC p s m args meth c D (zA G s.heap.size) cL_isWaited 10 RL wsL_isWaited (some .boolean)) {k9 : Nat} {c9 f9 : Int32} (hW : zWf σ) (h1 : 1 ≤ k9) (hk : k9 < 41) (h0 : σ 0 k9 ≠ 0) (K120 : ∀ w : Int32, zLs σ k9 c9 1 w → zV p l e ({ frames := 12, cells := 20, slots := 120, locals := 340 } : Room) s m args below meth c D (zA G s.heap.size) 0 0 Q G 120 [some (.ref x), some (.int (nI k9)), some (.int c9), some (.int f9), some (.int (zb (¬ zNot σ k9))), some (.int (w)), some (.int (zb (zHd σ k9 c9 (1)))), some (.int (nI 1)), none, none] []) : zV p l e ({ frames := 12, cells := 20, slots := 120, locals := 340 } : Room) s m args below meth c D (zA G s.heap.size) 0 0 Q G 0 [some (.ref x), some (.int (nI k9)), some (.int c9), some (.int f9), none, none, none, none, none, none] [] := by
  have loop : ∀ (n : Nat), n < 40 → ∀ w : Int32, zLs σ k9 c9 (n + 1) w → zV p l e ({ frames := 12, cells := 20, slots := 120, locals := 340 } : Room) s m args below meth c D (zA G s.heap.size) 0 0 Q G 31 [some (.ref x), some (.int (nI k9)), some (.int c9), some (.int f9), some (.int (zb (¬ zNot σ k9))), some (.int (w)), some (.int (zb (zHd σ k9 c9 (n + 1)))), some (.int (nI (n + 1))), none, none] [] := by
    intro n
    induction n with
    | zero =>
      intro hn w hw
      refine zz_iload (pc := 31) C dL_isWaited_31 rfl ?_
      refine zz_iconst (pc := 33) C (v := 1) (by decide) dL_isWaited_33 ?_
      refine zz_icmp_le (pc := 34) C (tgt := 120) dL_isWaited_34 (by decide) (fun hc34 => ?_) (fun hc34 => ?_)
      · exact K120 w hw
      · exact absurd (show nI 1 ≤ (1 : Int32) by decide) hc34
    | succ n ih =>
      intro hn w hw
      have K88 : zV p l e ({ frames := 12, cells := 20, slots := 120, locals := 340 } : Room) s m args below meth c D (zA G s.heap.size) 0 0 Q G 88 [some (.ref x), some (.int (nI k9)), some (.int c9), some (.int f9), some (.int (zb (¬ zNot σ k9))), some (.int (w)), some (.int (zb (zHd σ k9 c9 (n + 1 + 1)))), some (.int (nI (n + 1 + 1))), some (.int (zb (zKd σ k9 c9 (n + 1 + 1)))), none] [.int (zb (zHd σ k9 c9 (n + 1)))] := by
        refine zz_istore (pc := 88) C dL_isWaited_88 (Nat.le_of_ble_eq_true rfl) ?_
        refine zV.less (L' := [some (.ref (x)), some (.int (nI k9)), some (.int (c9)), some (.int (f9)), some (.int (zb (¬ zNot σ k9))), some (.int (w)), some (.int (zb (zHd σ k9 c9 (n + 1)))), some (.int (nI (n + 1 + 1))), some (.int (zb (zKd σ k9 c9 (n + 1 + 1)))), none]) ⟨rfl, rfl, rfl, rfl, rfl, rfl, rfl, rfl, rfl, trivial⟩ ?_
        refine zz_iload (pc := 90) C dL_isWaited_90 rfl ?_
        refine zz_if_eq (pc := 92) C (tgt := 110) dL_isWaited_92 (by decide) (fun hc92 => ?_) (fun hc92 => ?_)
        · refine zz_iload (pc := 110) C dL_isWaited_110 rfl ?_
          refine zz_istore (pc := 112) C dL_isWaited_112 (Nat.le_of_ble_eq_true rfl) ?_
          refine zV.less (L' := [some (.ref x), some (.int (nI k9)), some (.int c9), some (.int f9), some (.int (zb (¬ zNot σ k9))), some (.int (w)), some (.int (zb (zHd σ k9 c9 (n + 1)))), some (.int (nI (n + 1 + 1))), none, none]) ⟨rfl, rfl, rfl, rfl, rfl, rfl, rfl, rfl, trivial⟩ ?_
          refine zz_iinc (pc := 114) C dL_isWaited_114 rfl ?_
          refine zz_goto (pc := 117) C (tgt := 31) dL_isWaited_117 (by decide) ?_
          exact zV.less (L' := [some (.ref x), some (.int (nI k9)), some (.int c9), some (.int f9), some (.int (zb (¬ zNot σ k9))), some (.int (w)), some (.int (zb (zHd σ k9 c9 (n + 1)))), some (.int (nI (n + 1))), none, none]) ⟨rfl, rfl, rfl, rfl, rfl, rfl, rfl, zvi (z1d _), trivial⟩ (ih (by omega) _ (zLs_no hw (fun z => zb_eq.mp hc92 z.1)))
        · refine zz_aload_n (pc := 95) C dL_isWaited_95 rfl ?_
          refine zz_iload (pc := 96) C dL_isWaited_96 rfl ?_
          refine zz_callV (pc := 98) C (q_state l D hC (by omega) (by omega) (zbp hc92).1) gL_isWaited_X2_state rfl 1 (by decide +kernel) ⟨Nat.le_of_ble_eq_true rfl, Nat.le_of_ble_eq_true rfl⟩ hC.x (ci := 2) rfl rfl rfl dL_isWaited_98 rfl (Nat.le_of_ble_eq_true rfl) rfl ⟨Nat.le_of_ble_eq_true rfl, Nat.le_of_ble_eq_true rfl⟩ ?_
          rintro v G9 ⟨rfl, rfl⟩
          refine zz_iconst (pc := 101) C (v := 3) (by decide) dL_isWaited_101 ?_
          refine zz_icmp_ne (pc := 102) C (tgt := 110) dL_isWaited_102 (by decide) (fun hc102 => ?_) (fun hc102 => ?_)
          · refine zz_iload (pc := 110) C dL_isWaited_110 rfl ?_
            refine zz_istore (pc := 112) C dL_isWaited_112 (Nat.le_of_ble_eq_true rfl) ?_
            refine zV.less (L' := [some (.ref x), some (.int (nI k9)), some (.int c9), some (.int f9), some (.int (zb (¬ zNot σ k9))), some (.int (w)), some (.int (zb (zHd σ k9 c9 (n + 1)))), some (.int (nI (n + 1 + 1))), none, none]) ⟨rfl, rfl, rfl, rfl, rfl, rfl, rfl, rfl, trivial⟩ ?_
            refine zz_iinc (pc := 114) C dL_isWaited_114 rfl ?_
            refine zz_goto (pc := 117) C (tgt := 31) dL_isWaited_117 (by decide) ?_
            exact zV.less (L' := [some (.ref x), some (.int (nI k9)), some (.int c9), some (.int f9), some (.int (zb (¬ zNot σ k9))), some (.int (w)), some (.int (zb (zHd σ k9 c9 (n + 1)))), some (.int (nI (n + 1))), none, none]) ⟨rfl, rfl, rfl, rfl, rfl, rfl, rfl, zvi (z1d _), trivial⟩ (ih (by omega) _ (zLs_no hw (fun z => hc102 (zCon_3.mpr z.2))))
          · refine zz_iload (pc := 105) C dL_isWaited_105 rfl ?_
            refine zz_goto (pc := 107) C (tgt := 112) dL_isWaited_107 (by decide) ?_
            refine zz_istore (pc := 112) C dL_isWaited_112 (Nat.le_of_ble_eq_true rfl) ?_
            refine zV.less (L' := [some (.ref x), some (.int (nI k9)), some (.int c9), some (.int f9), some (.int (zb (¬ zNot σ k9))), some (.int (nI (n + 1 + 1))), some (.int (zb (zHd σ k9 c9 (n + 1)))), some (.int (nI (n + 1 + 1))), none, none]) ⟨rfl, rfl, rfl, rfl, rfl, rfl, rfl, rfl, trivial⟩ ?_
            refine zz_iinc (pc := 114) C dL_isWaited_114 rfl ?_
            refine zz_goto (pc := 117) C (tgt := 31) dL_isWaited_117 (by decide) ?_
            exact zV.less (L' := [some (.ref x), some (.int (nI k9)), some (.int c9), some (.int f9), some (.int (zb (¬ zNot σ k9))), some (.int (nI (n + 1 + 1))), some (.int (zb (zHd σ k9 c9 (n + 1)))), some (.int (nI (n + 1))), none, none]) ⟨rfl, rfl, rfl, rfl, rfl, rfl, rfl, zvi (z1d _), trivial⟩ (ih (by omega) _ (zLs_yes (by omega) ⟨zbp hc92, zCon_3.mp (Classical.not_not.mp hc102)⟩))
      have K71 : zV p l e ({ frames := 12, cells := 20, slots := 120, locals := 340 } : Room) s m args below meth c D (zA G s.heap.size) 0 0 Q G 71 [some (.ref x), some (.int (nI k9)), some (.int c9), some (.int f9), some (.int (zb (¬ zNot σ k9))), some (.int (w)), some (.int (zb (zHd σ k9 c9 (n + 1 + 1)))), some (.int (nI (n + 1 + 1))), none, none] [.int (zb (zKd σ k9 c9 (n + 1 + 1)))] := by
        refine zz_istore (pc := 71) C dL_isWaited_71 (Nat.le_of_ble_eq_true rfl) ?_
        refine zV.less (L' := [some (.ref (x)), some (.int (nI k9)), some (.int (c9)), some (.int (f9)), some (.int (zb (¬ zNot σ k9))), some (.int (w)), some (.int (zb (zHd σ k9 c9 (n + 1 + 1)))), some (.int (nI (n + 1 + 1))), some (.int (zb (zKd σ k9 c9 (n + 1 + 1)))), none]) ⟨rfl, rfl, rfl, rfl, rfl, rfl, rfl, rfl, rfl, trivial⟩ ?_
        refine zz_iload (pc := 73) C dL_isWaited_73 rfl ?_
        refine zz_if_ne (pc := 75) C (tgt := 83) dL_isWaited_75 (by decide) (fun hc75 => ?_) (fun hc75 => ?_)
        · refine zz_iconst (pc := 83) C (v := 1) (by decide) dL_isWaited_83 ?_
          refine zz_goto (pc := 84) C (tgt := 88) dL_isWaited_84 (by decide) ?_
          exact zV.less (L' := [some (.ref x), some (.int (nI k9)), some (.int c9), some (.int f9), some (.int (zb (¬ zNot σ k9))), some (.int (w)), some (.int (zb (zHd σ k9 c9 (n + 1 + 1)))), some (.int (nI (n + 1 + 1))), some (.int (zb (zKd σ k9 c9 (n + 1 + 1)))), none]) ⟨rfl, rfl, rfl, rfl, rfl, rfl, rfl, rfl, rfl, trivial⟩ (zV.topK K88 ((zb_t (zHd_up (zb_ne.mp hc75))).symm))
        · refine zz_iload (pc := 78) C dL_isWaited_78 rfl ?_
          refine zz_if_eq (pc := 80) C (tgt := 87) dL_isWaited_80 (by decide) (fun hc80 => ?_) (fun hc80 => ?_)
          · refine zz_iconst (pc := 87) C (v := 0) (by decide) dL_isWaited_87 ?_
            exact zV.less (L' := [some (.ref x), some (.int (nI k9)), some (.int c9), some (.int f9), some (.int (zb (¬ zNot σ k9))), some (.int (w)), some (.int (zb (zHd σ k9 c9 (n + 1 + 1)))), some (.int (nI (n + 1 + 1))), some (.int (zb (zKd σ k9 c9 (n + 1 + 1)))), none]) ⟨rfl, rfl, rfl, rfl, rfl, rfl, rfl, rfl, rfl, trivial⟩ (zV.topK K88 ((zb_f (zHd_no (fun y => hc75 (zb_ne.mpr y)) (zb_eq.mp hc80))).symm))
          · refine zz_iconst (pc := 83) C (v := 1) (by decide) dL_isWaited_83 ?_
            refine zz_goto (pc := 84) C (tgt := 88) dL_isWaited_84 (by decide) ?_
            exact zV.less (L' := [some (.ref x), some (.int (nI k9)), some (.int c9), some (.int f9), some (.int (zb (¬ zNot σ k9))), some (.int (w)), some (.int (zb (zHd σ k9 c9 (n + 1 + 1)))), some (.int (nI (n + 1 + 1))), some (.int (zb (zKd σ k9 c9 (n + 1 + 1)))), none]) ⟨rfl, rfl, rfl, rfl, rfl, rfl, rfl, rfl, rfl, trivial⟩ (zV.topK K88 ((zb_t (zHd_yes (by omega) (zbp hc80))).symm))
      refine zz_iload (pc := 31) C dL_isWaited_31 rfl ?_
      refine zz_iconst (pc := 33) C (v := 1) (by decide) dL_isWaited_33 ?_
      refine zz_icmp_le (pc := 34) C (tgt := 120) dL_isWaited_34 (by decide) (fun hc34 => ?_) (fun hc34 => ?_)
      · exact absurd hc34 (fun z => by have := (nI_leI (a := n + 1 + 1) (b := 1) (by omega) (by decide)).mp z; omega)
      · refine zz_aload_n (pc := 37) C dL_isWaited_37 rfl ?_
        refine zz_iload (pc := 38) C dL_isWaited_38 rfl ?_
        refine zz_callV (pc := 40) C (q_exists l D hC (by omega) (by omega)) gL_isWaited_X2_exists rfl 1 (by decide +kernel) ⟨Nat.le_of_ble_eq_true rfl, Nat.le_of_ble_eq_true rfl⟩ hC.x (ci := 2) rfl rfl rfl dL_isWaited_40 rfl (Nat.le_of_ble_eq_true rfl) rfl ⟨Nat.le_of_ble_eq_true rfl, Nat.le_of_ble_eq_true rfl⟩ ?_
        rintro v G9 ⟨rfl, rfl⟩
        refine zz_if_eq (pc := 43) C (tgt := 70) dL_isWaited_43 (by decide) (fun hc43 => ?_) (fun hc43 => ?_)
        · refine zz_iconst (pc := 70) C (v := 0) (by decide) dL_isWaited_70 ?_
          exact zV.less (L' := [some (.ref x), some (.int (nI k9)), some (.int c9), some (.int f9), some (.int (zb (¬ zNot σ k9))), some (.int (w)), some (.int (zb (zHd σ k9 c9 (n + 1 + 1)))), some (.int (nI (n + 1 + 1))), none, none]) ⟨rfl, rfl, rfl, rfl, rfl, rfl, rfl, rfl, trivial⟩ (zV.topK K71 ((zb_f (fun z => zb_eq.mp hc43 z.1)).symm))
        · refine zz_aload_n (pc := 46) C dL_isWaited_46 rfl ?_
          refine zz_iload (pc := 47) C dL_isWaited_47 rfl ?_
          refine zz_callV (pc := 49) C (q_parent l D hC hW (by omega) (by omega) (zbp hc43)) gL_isWaited_X2_parent rfl 1 (by decide +kernel) ⟨Nat.le_of_ble_eq_true rfl, Nat.le_of_ble_eq_true rfl⟩ hC.x (ci := 2) rfl rfl rfl dL_isWaited_49 rfl (Nat.le_of_ble_eq_true rfl) rfl ⟨Nat.le_of_ble_eq_true rfl, Nat.le_of_ble_eq_true rfl⟩ ?_
          rintro v G9 ⟨rfl, rfl⟩
          refine zz_iload_n (pc := 52) C dL_isWaited_52 rfl ?_
          refine zz_icmp_ne (pc := 53) C (tgt := 70) dL_isWaited_53 (by decide) (fun hc53 => ?_) (fun hc53 => ?_)
          · refine zz_iconst (pc := 70) C (v := 0) (by decide) dL_isWaited_70 ?_
            exact zV.less (L' := [some (.ref x), some (.int (nI k9)), some (.int c9), some (.int f9), some (.int (zb (¬ zNot σ k9))), some (.int (w)), some (.int (zb (zHd σ k9 c9 (n + 1 + 1)))), some (.int (nI (n + 1 + 1))), none, none]) ⟨rfl, rfl, rfl, rfl, rfl, rfl, rfl, rfl, trivial⟩ (zV.topK K71 ((zb_f (fun z => hc53 z.2.1)).symm))
          · refine zz_iload_n (pc := 56) C dL_isWaited_56 rfl ?_
            refine zz_if_lt (pc := 57) C (tgt := 66) dL_isWaited_57 (by decide) (fun hc57 => ?_) (fun hc57 => ?_)
            · refine zz_iconst (pc := 66) C (v := 1) (by decide) dL_isWaited_66 ?_
              refine zz_goto (pc := 67) C (tgt := 71) dL_isWaited_67 (by decide) ?_
              exact zV.less (L' := [some (.ref x), some (.int (nI k9)), some (.int c9), some (.int f9), some (.int (zb (¬ zNot σ k9))), some (.int (w)), some (.int (zb (zHd σ k9 c9 (n + 1 + 1)))), some (.int (nI (n + 1 + 1))), none, none]) ⟨rfl, rfl, rfl, rfl, rfl, rfl, rfl, rfl, trivial⟩ (zV.topK K71 ((zb_t ⟨zbp hc43, Classical.not_not.mp hc53, Or.inl hc57⟩).symm))
            · refine zz_iload_n (pc := 60) C dL_isWaited_60 rfl ?_
              refine zz_iload (pc := 61) C dL_isWaited_61 rfl ?_
              refine zz_icmp_ne (pc := 63) C (tgt := 70) dL_isWaited_63 (by decide) (fun hc63 => ?_) (fun hc63 => ?_)
              · refine zz_iconst (pc := 70) C (v := 0) (by decide) dL_isWaited_70 ?_
                exact zV.less (L' := [some (.ref x), some (.int (nI k9)), some (.int c9), some (.int f9), some (.int (zb (¬ zNot σ k9))), some (.int (w)), some (.int (zb (zHd σ k9 c9 (n + 1 + 1)))), some (.int (nI (n + 1 + 1))), none, none]) ⟨rfl, rfl, rfl, rfl, rfl, rfl, rfl, rfl, trivial⟩ (zV.topK K71 ((zb_f (fun z => z.2.2.elim hc57 hc63)).symm))
              · refine zz_iconst (pc := 66) C (v := 1) (by decide) dL_isWaited_66 ?_
                refine zz_goto (pc := 67) C (tgt := 71) dL_isWaited_67 (by decide) ?_
                exact zV.less (L' := [some (.ref x), some (.int (nI k9)), some (.int c9), some (.int f9), some (.int (zb (¬ zNot σ k9))), some (.int (w)), some (.int (zb (zHd σ k9 c9 (n + 1 + 1)))), some (.int (nI (n + 1 + 1))), none, none]) ⟨rfl, rfl, rfl, rfl, rfl, rfl, rfl, rfl, trivial⟩ (zV.topK K71 ((zb_t ⟨zbp hc43, Classical.not_not.mp hc53, Or.inr (Classical.not_not.mp hc63)⟩).symm))
  have hs : ¬ zHd σ k9 c9 40 := fun z => z (fun j j1 j2 => by omega)
  have K18 : zV p l e ({ frames := 12, cells := 20, slots := 120, locals := 340 } : Room) s m args below meth c D (zA G s.heap.size) 0 0 Q G 18 [some (.ref x), some (.int (nI k9)), some (.int c9), some (.int f9), none, none, none, none, none, none] [.int (zb (¬ zNot σ k9))] := by
    refine zz_istore (pc := 18) C dL_isWaited_18 (Nat.le_of_ble_eq_true rfl) ?_
    refine zV.less (L' := [some (.ref (x)), some (.int (nI k9)), some (.int (c9)), some (.int (f9)), some (.int (zb (¬ zNot σ k9))), none, none, none, none, none]) ⟨rfl, rfl, rfl, rfl, rfl, trivial⟩ ?_
    refine zz_bipush (pc := 20) C (v := 99) (by decide) dL_isWaited_20 ?_
    refine zz_istore (pc := 22) C dL_isWaited_22 (Nat.le_of_ble_eq_true rfl) ?_
    refine zV.less (L' := [some (.ref (x)), some (.int (nI k9)), some (.int (c9)), some (.int (f9)), some (.int (zb (¬ zNot σ k9))), some (.int (99)), none, none, none, none]) ⟨rfl, rfl, rfl, rfl, rfl, rfl, trivial⟩ ?_
    refine zz_iconst (pc := 24) C (v := 0) (by decide) dL_isWaited_24 ?_
    refine zz_istore (pc := 25) C dL_isWaited_25 (Nat.le_of_ble_eq_true rfl) ?_
    refine zV.less (L' := [some (.ref (x)), some (.int (nI k9)), some (.int (c9)), some (.int (f9)), some (.int (zb (¬ zNot σ k9))), some (.int (99)), some (.int (zb (zHd σ k9 c9 (40)))), none, none, none]) ⟨rfl, rfl, rfl, rfl, rfl, rfl, zvi (zb_f hs).symm, trivial⟩ ?_
    refine zz_bipush (pc := 27) C (v := 40) (by decide) dL_isWaited_27 ?_
    refine zz_istore (pc := 29) C dL_isWaited_29 (Nat.le_of_ble_eq_true rfl) ?_
    refine zV.less (L' := [some (.ref (x)), some (.int (nI k9)), some (.int (c9)), some (.int (f9)), some (.int (zb (¬ zNot σ k9))), some (.int (99)), some (.int (zb (zHd σ k9 c9 (40)))), some (.int (nI 40)), none, none]) ⟨rfl, rfl, rfl, rfl, rfl, rfl, rfl, rfl, trivial⟩ ?_
    exact zV.less (L' := [some (.ref x), some (.int (nI k9)), some (.int c9), some (.int f9), some (.int (zb (¬ zNot σ k9))), some (.int (99)), some (.int (zb (zHd σ k9 c9 (39 + 1)))), some (.int (nI (39 + 1))), none, none]) ⟨rfl, rfl, rfl, rfl, rfl, rfl, rfl, rfl, trivial⟩ (loop 39 (by decide) 99 (Or.inl ⟨rfl, fun j j1 j2 => by omega⟩))
  refine zz_iload_n (pc := 0) C dL_isWaited_0 rfl ?_
  refine zz_iconst (pc := 1) C (v := 1) (by decide) dL_isWaited_1 ?_
  refine zz_icmp_le (pc := 2) C (tgt := 17) dL_isWaited_2 (by decide) (fun hc2 => ?_) (fun hc2 => ?_)
  · refine zz_iconst (pc := 17) C (v := 0) (by decide) dL_isWaited_17 ?_
    exact zV.less (L' := [some (.ref x), some (.int (nI k9)), some (.int c9), some (.int f9), none, none, none, none, none, none]) ⟨rfl, rfl, rfl, rfl, trivial⟩ (zV.topK K18 ((zb_f (fun z => z (Or.inl (zLe1 h1 hk hc2)))).symm))
  · refine zz_aload_n (pc := 5) C dL_isWaited_5 rfl ?_
    refine zz_iload_n (pc := 6) C dL_isWaited_6 rfl ?_
    refine zz_callV (pc := 7) C (q_state l D hC h1 hk h0) gL_isWaited_X2_state rfl 1 (by decide +kernel) ⟨Nat.le_of_ble_eq_true rfl, Nat.le_of_ble_eq_true rfl⟩ hC.x (ci := 2) rfl rfl rfl dL_isWaited_7 rfl (Nat.le_of_ble_eq_true rfl) rfl ⟨Nat.le_of_ble_eq_true rfl, Nat.le_of_ble_eq_true rfl⟩ ?_
    rintro v G9 ⟨rfl, rfl⟩
    refine zz_if_ne (pc := 10) C (tgt := 17) dL_isWaited_10 (by decide) (fun hc10 => ?_) (fun hc10 => ?_)
    · refine zz_iconst (pc := 17) C (v := 0) (by decide) dL_isWaited_17 ?_
      exact zV.less (L' := [some (.ref x), some (.int (nI k9)), some (.int c9), some (.int f9), none, none, none, none, none, none]) ⟨rfl, rfl, rfl, rfl, trivial⟩ (zV.topK K18 ((zb_f (fun z => z (Or.inr (fun y => hc10 (zCon_0.mpr y))))).symm))
    · refine zz_iconst (pc := 13) C (v := 1) (by decide) dL_isWaited_13 ?_
      refine zz_goto (pc := 14) C (tgt := 18) dL_isWaited_14 (by decide) ?_
      exact zV.less (L' := [some (.ref x), some (.int (nI k9)), some (.int c9), some (.int f9), none, none, none, none, none, none]) ⟨rfl, rfl, rfl, rfl, trivial⟩ (zV.topK K18 ((zb_t (show ¬ zNot σ k9 from fun z => z.elim (fun y => hc2 (by rw [y]; decide)) (fun y => y (zCon_0.mp (Classical.not_not.mp hc10))))).symm))
theorem zLs_none {σ : zS} {k : Nat} {c w : Int32} (h : zLs σ k c 1 w) (hn : ∀ j, j < 41 → ¬ zKz σ k c j) : w = 99 := by
  rcases h with h | ⟨b, b1, b2, b3, b4, b5⟩
  · exact h.1
  · exact absurd b4 (hn b b3)
theorem zLs_is {σ : zS} {k b : Nat} {c w : Int32} (h : zLs σ k c 1 w) (hb : 1 < b) (hb41 : b < 41) (hz : zKz σ k c b) (hm : ∀ j, j < b → ¬ zKz σ k c j) : w = nI b := by
  rcases h with h | ⟨d, b1, b2, b3, b4, b5⟩
  · exact absurd hz (h.2 b hb hb41)
  · rcases Nat.lt_trichotomy b d with y | y | y
    · exact absurd hz (b5 b hb y)
    · rw [b1, y]
    · exact absurd b4 (hm d y)
theorem zLs_above {σ : zS} {k b : Nat} {c w : Int32} (h : zLs σ k c 1 w) (hb41 : b < 41) (h4 : σ 4 b = 0) (hm : ∀ j, j < b → ¬ zKz σ k c j) : ¬ w < nI b ∧ nI b ≠ w := by
  rcases h with ⟨h, _⟩ | ⟨d, b1, b2, b3, b4, b5⟩
  · rw [h]
    exact ⟨fun z => by
      have := (nI_ltI (a := 99) (b := b) (by decide) (by omega)).mp z
      omega, fun z => by
      have := (nI_eq (a := b) (b := 99) (by omega) (by decide)).mp z
      omega⟩
  · have hd : b < d := by
      rcases Nat.lt_trichotomy b d with y | y | y
      · exact y
      · rw [← y] at b4; exact absurd h4 b4.2
      · exact absurd b4 (hm d y)
    rw [b1]
    exact ⟨fun z => by
      have := (nI_ltI (a := d) (b := b) (by omega) (by omega)).mp z
      omega, fun z => by
      have := (nI_eq (a := b) (b := d) (by omega) (by omega)).mp z
      omega⟩
theorem zNNn (b : Nat) (hb : b < 42) : (0 : Int32) ≤ nI b := (nI_leI (a := 0) (b := b) (by decide) (by omega)).mpr (by omega)
theorem zb0_41 {b : Nat} (hb : b = 0 ∨ b = 41) (h : ¬ (40 : Int32) < nI b) : nI b = 0 := by
  rcases hb with rfl | rfl
  · rfl
  · exact absurd z41 h
theorem znI0 {b : Nat} (h1 : 1 ≤ b) (hb : b < 42) : nI b ≠ 0 := nI_ne0 (by omega) (by omega)
theorem zn99 {b : Nat} (hb : b < 41) : ¬ nI b = 99 := fun z => by
  have := (nI_eq (a := b) (b := 99) (by omega) (by decide)).mp z
  omega
