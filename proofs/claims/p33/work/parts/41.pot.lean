/-! how many events a call takes: a number that falls -/
def zSum (f : Nat → Nat) : Nat → Nat
  | 0 => 0
  | n + 1 => zSum f n + f n
theorem zSum_le {f g : Nat → Nat} : ∀ {n : Nat}, (∀ k, k < n → g k ≤ f k) → zSum g n ≤ zSum f n
  | 0, _ => Nat.le_refl _
  | n + 1, h => Nat.add_le_add (zSum_le (fun k hk => h k (by omega))) (h n (by omega))
theorem zSum_at {f g : Nat → Nat} {p a : Nat} : ∀ {n : Nat}, p < n → (∀ k, k < n → g k ≤ f k) → g p + a ≤ f p → zSum g n + a ≤ zSum f n
  | 0, hp, _, _ => absurd hp (by omega)
  | n + 1, hp, h, ha => by
    show zSum g n + g n + a ≤ zSum f n + f n
    by_cases hpn : p = n
    · have := zSum_le (n := n) (fun k hk => h k (by omega))
      rw [hpn] at ha
      omega
    · have := zSum_at (n := n) (by omega) (fun k hk => h k (by omega)) ha
      have := h n (by omega)
      omega
theorem zSum_up {f g : Nat → Nat} {p a : Nat} : ∀ {n : Nat}, (∀ k, k < n → k ≠ p → g k ≤ f k) → g p ≤ f p + a → zSum g n ≤ zSum f n + (if p < n then a else 0)
  | 0, _, _ => Nat.zero_le _
  | n + 1, h, ha => by
    have ih := zSum_up (n := n) (fun k hk => h k (by omega)) ha
    show zSum g n + g n ≤ zSum f n + f n + _
    by_cases hpn : p = n
    · rw [if_neg (by omega)] at ih
      rw [if_pos (by omega)]
      rw [hpn] at ha
      omega
    · have h1 := h n (by omega) (fun z => hpn z.symm)
      by_cases hlt : p < n
      · rw [if_pos hlt] at ih
        rw [if_pos (by omega)]
        omega
      · rw [if_neg hlt] at ih
        rw [if_neg (by omega)]
        omega
theorem zSum_bd {f : Nat → Nat} {a : Nat} : ∀ {n : Nat}, (∀ k, k < n → f k ≤ a) → zSum f n ≤ n * a
  | 0, _ => by show 0 ≤ _; omega
  | n + 1, h => by
    have ih := zSum_bd (n := n) (fun k hk => h k (by omega))
    have := h n (by omega)
    show zSum f n + f n ≤ _
    rw [Nat.add_mul]
    omega
abbrev zLive (σ : zS) (k : Nat) : Prop := σ 0 k ≠ 0 ∧ σ 4 k = 0 ∧ k ≠ 1
def zPt (L b : Nat) (σ : zS) (k : Nat) : Nat := (if zLive σ k then L else 0) + (if zbit (σ 11 k) 6 = true then b else 0)
def zWq (w : Nat → Nat) (q : List zEv) : Nat := (q.map (fun e => w e.1)).sum
theorem zWq_app {w : Nat → Nat} {a b : List zEv} : zWq w (a ++ b) = zWq w a + zWq w b := by simp [zWq]
theorem zWq_one {w : Nat → Nat} {e : zEv} : zWq w [e] = w e.1 := by simp [zWq]
theorem zWq_cons {w : Nat → Nat} {e : zEv} {q : List zEv} : zWq w (e :: q) = w e.1 + zWq w q := by simp [zWq]
theorem zWq_le {w : Nat → Nat} {c : Nat} : ∀ {q : List zEv}, (∀ e ∈ q, w e.1 ≤ c) → zWq w q ≤ c * q.length
  | [], _ => by simp [zWq]
  | e :: q, h => by
    have ih := zWq_le (q := q) (fun e he => h e (List.mem_cons_of_mem _ he))
    have := h e List.mem_cons_self
    rw [zWq_cons, List.length_cons, Nat.mul_add]
    omega
theorem zWq_len {w : Nat → Nat} : ∀ {q : List zEv}, (∀ e ∈ q, 1 ≤ w e.1) → q.length ≤ zWq w q
  | [], _ => Nat.zero_le _
  | e :: q, h => by
    have ih := zWq_len (q := q) (fun e he => h e (List.mem_cons_of_mem _ he))
    have := h e List.mem_cons_self
    rw [zWq_cons, List.length_cons]
    omega
def zPhi (w : Nat → Nat) (L b : Nat) (x : zS × List zEv) : Nat := zSum (zPt L b x.1) 41 + zWq w x.2
theorem zPhi_mk {w : Nat → Nat} {L b : Nat} {σ : zS} {q : List zEv} : zPhi w L b (σ, q) = zSum (zPt L b σ) 41 + zWq w q := rfl
theorem zPhi_add {w : Nat → Nat} {L b k : Nat} {σ : zS} {q : List zEv} {e : zEv} (hk : w e.1 = k) : zPhi w L b (σ, q ++ [e]) = zPhi w L b (σ, q) + k := by
  rw [zPhi_mk, zPhi_mk, zWq_app, zWq_one, hk]
  omega
def zWts (w : Nat → Nat) (L b d : Nat) : Prop := (∀ s, s ≤ 10 → d ≤ w s) ∧ w 4 + d ≤ w 9 ∧ w 4 + d ≤ w 10 ∧ w 10 + d ≤ w 5 ∧ b + d ≤ w 6 ∧ w 10 ≤ b ∧ w 7 = w 0 ∧ 123 * w 0 + 42 * w 9 ≤ L
theorem zPt_le {L b : Nat} {σ τ : zS} {k : Nat} (h0 : τ 0 k ≠ 0 → σ 0 k ≠ 0) (h4 : τ 0 k ≠ 0 → σ 4 k ≠ 0 → τ 4 k ≠ 0) (h11 : zbit (τ 11 k) 6 = true → zbit (σ 11 k) 6 = true) : zPt L b τ k ≤ zPt L b σ k := by
  unfold zPt
  by_cases h1 : zLive τ k
  · have h2 : zLive σ k := ⟨h0 h1.1, Classical.not_not.mp (fun z => h4 h1.1 z h1.2.1), h1.2.2⟩
    rw [if_pos h1, if_pos h2]
    by_cases hb : zbit (τ 11 k) 6 = true
    · rw [if_pos hb, if_pos (h11 hb)]; exact Nat.le_refl _
    · rw [if_neg hb]; omega
  · rw [if_neg h1]
    by_cases hb : zbit (τ 11 k) 6 = true
    · rw [if_pos hb, if_pos (h11 hb)]; omega
    · rw [if_neg hb]; omega
theorem zPhi_mo {w : Nat → Nat} {L b : Nat} {x : zS × List zEv} {τ : zS} (hm : zMo x.1 τ) (h11 : ∀ k, zbit (τ 11 k) 6 = true → zbit (x.1 11 k) 6 = true) : zPhi w L b (τ, x.2) ≤ zPhi w L b x := by
  unfold zPhi
  exact Nat.add_le_add_right (zSum_le (fun k _ => zPt_le (hm.1 k) (hm.2 k) (h11 k))) _
theorem zT3_11k {σ : zS} {p k : Nat} {a b : Int32} : zT3 σ p a b 11 k = if k = p then 0 else σ 11 k := by
  rw [zT3_off (by decide)]
  unfold zT2
  rw [zHandN_off (by decide), zDie_11]
theorem zSends_w {w : Nat → Nat} {σ : zS} {g : Int32} {s : Nat} : ∀ e ∈ zSends σ g s 41, w e.1 ≤ w s := by
  intro e he
  obtain ⟨k, hk, rfl⟩ := List.mem_map.mp he
  exact Nat.le_refl _
theorem zTq_w {w : Nat → Nat} {L b d : Nat} (hw : zWts w L b d) {σ : zS} {p : Nat} {a c : Int32} : zWq w (zTq σ p a c) ≤ L := by
  obtain ⟨_, _, _, _, _, _, h7, hL⟩ := hw
  unfold zTq
  rw [zWq_app, zWq_app, zWq_app, zWq_one]
  have a1 : zWq w (zTq1 σ p a c) ≤ w 0 * (zTq1 σ p a c).length := zWq_le (fun e he => by
    unfold zTq1 at he
    split at he
    · exact zSends_w e he
    · exact absurd he List.not_mem_nil)
  have a2 : zWq w (zTq2 σ p 41) ≤ w 9 * (zTq2 σ p 41).length := zWq_le (fun e he => by
    obtain ⟨k, hk, rfl⟩ := List.mem_map.mp he
    exact Nat.le_refl _)
  have a3 : zWq w (zTq3 σ (zT3 σ p a c) 41) ≤ w 0 * (zTq3 σ (zT3 σ p a c) 41).length := zWq_le (fun e he => by
    obtain ⟨g, hg, he⟩ := List.mem_flatMap.mp he
    split at he
    · rcases List.mem_append.mp he with he | he
      · exact zSends_w e he
      · rw [← h7]; exact zSends_w e he
    · exact absurd he List.not_mem_nil)
  have b1 := Nat.mul_le_mul_left (w 0) (zTq1_len σ p a c)
  have b2 := Nat.mul_le_mul_left (w 9) (zTq2_len σ p 41)
  have b3 := Nat.mul_le_mul_left (w 0) (zTq3_82 σ (zT3 σ p a c) 41 (by decide))
  have e1 : w 0 * 41 = 41 * w 0 := Nat.mul_comm _ _
  have e2 : w 9 * 41 = 41 * w 9 := Nat.mul_comm _ _
  have e3 : w 0 * 82 = 82 * w 0 := Nat.mul_comm _ _
  show _ + (_ + (_ + w 9)) ≤ L
  omega
theorem zPhi_term {w : Nat → Nat} {L b d : Nat} (hw : zWts w L b d) {x : zS × List zEv} {p : Nat} {a c : Int32} (hp : p < 41) (h0 : x.1 0 p ≠ 0) (h1 : p ≠ 1) (h4 : x.1 4 p = 0) : zPhi w L b (zTerm x p a c) ≤ zPhi w L b x := by
  have h9 : zSum (zPt L b (zT3 x.1 p a c)) 41 + L ≤ zSum (zPt L b x.1) 41 := by
    refine zSum_at hp (fun k _ => zPt_le (fun z => by rw [zT3_0] at z; exact z) (fun _ z => ?_) (fun z => ?_)) ?_
    · rw [zT3_44]
      split
      · decide
      · exact z
    · rw [zT3_11k] at z
      split at z
      · rw [zbit_0] at z; cases z
      · exact z
    · unfold zPt
      rw [if_neg (fun z => by have h9 := z.2.1; rw [zT3_4] at h9; exact absurd h9 (by decide)), zT3_11k, if_pos rfl, zbit_0, if_neg (by decide), if_pos ⟨h0, h4, h1⟩]
      omega
  have h8 := zTq_w hw (σ := x.1) (p := p) (a := a) (c := c)
  show zSum (zPt L b (zT3 x.1 p a c)) 41 + zWq w (x.2 ++ zTq x.1 p a c) ≤ zSum (zPt L b x.1) 41 + zWq w x.2
  rw [zWq_app]
  omega
theorem zPhi_stop {w : Nat → Nat} {L b : Nat} {x : zS × List zEv} {p s : Nat} : zPhi w L b (zStop x p s) = zPhi w L b x + w 10 := zPhi_add (σ := x.1) (q := x.2) (e := (10, p)) rfl
theorem zPhi_check {w : Nat → Nat} {L b : Nat} {x : zS × List zEv} {p : Nat} : zPhi w L b (zCheck x.1 p, x.2) ≤ zPhi w L b x := by
  refine zPhi_mo ⟨fun k hk => ?_, fun k hk h4 => ?_⟩ (fun k hk => ?_)
  · rcases zCheck_cases x.1 p with e | e | ⟨j, _, _, _, e⟩ | ⟨j, _, _, _, e⟩ <;> rw [e] at hk
    · exact hk
    · exact hk
    · exact (zMo.rf (σ := zEnds x.1 p (x.1 14 j) (nI j) (x.1 15 j))).gone.1 k hk
    · exact hk
  · rw [zCheck_off (by decide)]; exact h4
  · rw [zCheck_off (by decide)] at hk; exact hk
theorem zPhi_dstep {w : Nat → Nat} {L b d : Nat} (hw : zWts w L b d) {x : zS × List zEv} {p s : Nat} (hp : p < 41) (h0 : x.1 0 p ≠ 0) (h1 : p ≠ 1) (hs : s < 9) : zPhi w L b (zDstep p x s) ≤ zPhi w L b x := by
  by_cases hd : x.1 4 p = 0 ∧ x.1 5 p = 0 ∧ zOpen x.1 p &&& zSh s ≠ 0
  · rw [zDstep_yes hd]
    have hbs : zbit (x.1 11 p) s = true := by
      have h9 := (zbit_shne (by omega)).mp hd.2.2
      rw [zopen_bit (by omega), Bool.and_eq_true] at h9
      exact h9.1
    have hm : zMo x.1 (zu x.1 11 p (zClr (x.1 11 p) s)) := zMo.of rfl rfl
    have hc : ∀ k, zbit ((zu x.1 11 p (zClr (x.1 11 p) s)) 11 k) 6 = true → zbit (x.1 11 k) 6 = true := fun k hk => by
      rw [zu_iff] at hk
      by_cases hkp : k = p
      · rw [if_pos hkp, zbit_clr (by omega) (by decide), Bool.and_eq_true] at hk
        rw [hkp]; exact hk.1
      · rw [if_neg hkp] at hk; exact hk
    have hle : zPhi w L b (zu x.1 11 p (zClr (x.1 11 p) s), x.2) ≤ zPhi w L b x := zPhi_mo hm hc
    by_cases ha2 : zAct (zu x.1 11 p (zClr (x.1 11 p) s), x.2).1 p s = 2
    · rw [zEff_c ha2]
      refine Nat.le_trans ?_ hle
      exact zPhi_mo (x := (zu x.1 11 p (zClr (x.1 11 p) s), x.2)) (zMo.of (zCatch_off (by decide)) (zCatch_off (by decide))) (fun k hk => by rw [zCatch_off (by decide)] at hk; exact hk)
    · by_cases ha0 : zAct (zu x.1 11 p (zClr (x.1 11 p) s), x.2).1 p s = 0
      · by_cases h6 : s = 6
        · by_cases ho : zOrph (zu x.1 11 p (zClr (x.1 11 p) s), x.2).1 ((zu x.1 11 p (zClr (x.1 11 p) s), x.2).1 2 p)
          · rw [zEff_o ha2 ⟨ha0, h6⟩ ho]; exact hle
          · rw [zEff_s ha2 ⟨ha0, h6⟩ ho, zPhi_stop]
            subst h6
            have h9 : zSum (zPt L b (zu x.1 11 p (zClr (x.1 11 p) 6))) 41 + b ≤ zSum (zPt L b x.1) 41 := by
              refine zSum_at hp (fun k _ => zPt_le (hm.1 k) (hm.2 k) (hc k)) ?_
              unfold zPt
              rw [zu_iff, if_pos rfl, zbit_clr (by decide) (by decide), hbs, if_pos rfl]
              rw [if_neg (show ¬ (true && !decide (6 = 6)) = true by decide)]
              exact Nat.le_refl _
            have := hw.2.2.2.2.2.1
            show zSum (zPt L b (zu x.1 11 p (zClr (x.1 11 p) 6))) 41 + zWq w x.2 + w 10 ≤ zSum (zPt L b x.1) 41 + zWq w x.2
            omega
        · rw [zEff_t ha0 h6]
          exact Nat.le_trans (zPhi_term hw (x := (zu x.1 11 p (zClr (x.1 11 p) s), x.2)) hp h0 h1 hd.1) hle
      · rw [zEff_i ha2 ha0]; exact hle
  · rw [zDstep_no hd]; exact Nat.le_refl _
theorem zPhi_dfold {w : Nat → Nat} {L b d : Nat} (hw : zWts w L b d) {x : zS × List zEv} {p : Nat} (hp : p < 41) (h0 : x.1 0 p ≠ 0) (h1 : p ≠ 1) : ∀ {n : Nat}, n ≤ 9 → zPhi w L b (zDfold p x n) ≤ zPhi w L b x
  | 0, _ => Nat.le_refl _
  | n + 1, hn => by
    rw [zDfold_succ]
    exact Nat.le_trans (zPhi_dstep hw hp (by rw [zDfold_0f]; exact h0) h1 (by omega)) (zPhi_dfold hw hp h0 h1 (by omega))
theorem zPhi_del {w : Nat → Nat} {L b d : Nat} (hw : zWts w L b d) {x : zS × List zEv} {p : Nat} (hp : p < 41) (h0 : x.1 0 p ≠ 0) (h1 : p ≠ 1) : zPhi w L b (zDel x p) ≤ zPhi w L b x :=
  Nat.le_trans (zPhi_check (x := zDfold p x 9)) (zPhi_dfold hw hp h0 h1 (Nat.le_refl _))
theorem zCont_bit {σ : zS} {p s k : Nat} (h : zbit (zCont σ p s 11 k) 6 = true) : zbit (σ 11 k) 6 = true := by
  have hc : ∀ t, t < 32 → zbit ((zu σ 11 p (zClr (σ 11 p) t)) 11 k) 6 = true → zbit (σ 11 k) 6 = true := fun t ht hk => by
    rw [zu_iff] at hk
    by_cases hkp : k = p
    · rw [if_pos hkp, zbit_clr ht (by decide), Bool.and_eq_true] at hk
      rw [hkp]; exact hk.1
    · rw [if_neg hkp] at hk; exact hk
  unfold zCont at h
  split at h
  · exact hc 6 (by decide) h
  · split at h
    · exact hc 7 (by decide) h
    · exact h
theorem zPhi_take {w : Nat → Nat} {L b d : Nat} (hw : zWts w L b d) {x : zS × List zEv} {p s : Nat} (hp : p < 41) (h0 : x.1 0 p ≠ 0) (h1 : p ≠ 1) (h4 : x.1 4 p = 0) (hs : s < 9) : zPhi w L b (zTake x p s) + d ≤ zPhi w L b x + w s := by
  have hd := hw.1 s (by omega)
  by_cases h2 : s = 2
  · rw [zTake_2 h2]
    have := zPhi_term hw (x := x) (p := p) (a := 1) (c := 2) hp h0 h1 h4
    omega
  · by_cases h5 : s = 5
    · by_cases h55 : x.1 5 p = 0
      · rw [zTake_5s h5 h55, zPhi_stop, h5]
        have := hw.2.2.2.1
        omega
      · rw [zTake_5 h5 h55]; omega
    · by_cases hh : zHeed x.1 p s
      · rw [zTake_p h2 h5 hh]
        have e : ∀ k, k ≠ p → zPt L b (zu x.1 11 p (x.1 11 p ||| zSh s)) k = zPt L b x.1 k := fun k hk => by
          unfold zPt
          rw [zu_iff, if_neg hk]
          rfl
        have ep : zPt L b (zu x.1 11 p (x.1 11 p ||| zSh s)) p ≤ zPt L b x.1 p + (if s = 6 then b else 0) := by
          unfold zPt
          rw [zu_iff, if_pos rfl, zbit_or, zbit_sh (by omega) (by decide)]
          show (if zLive x.1 p then L else 0) + _ ≤ _
          by_cases h6 : s = 6
          · rw [if_pos h6]
            split <;> (try split) <;> omega
          · rw [if_neg h6, show decide (6 = s) = false from decide_eq_false (fun z => h6 z.symm), Bool.or_false]
            omega
        have h9 := zSum_up (n := 41) (fun k _ hk => Nat.le_of_eq (e k hk)) ep
        rw [if_pos hp] at h9
        show zSum (zPt L b (zu x.1 11 p (x.1 11 p ||| zSh s))) 41 + zWq w x.2 + d ≤ zSum (zPt L b x.1) 41 + zWq w x.2 + w s
        by_cases h6 : s = 6
        · rw [if_pos h6] at h9
          rw [h6]
          rw [h6] at h9
          have := hw.2.2.2.2.1
          omega
        · rw [if_neg h6] at h9
          omega
      · rw [zTake_n h2 h5 hh]; omega
theorem zPhi_comes {w : Nat → Nat} {L b d : Nat} (hw : zWts w L b d) {x : zS × List zEv} {p s : Nat} (hp : p < 41) (hs : s < 9) : zPhi w L b (zComes x p s) + d ≤ zPhi w L b x + w s := by
  have hd := hw.1 s (by omega)
  by_cases hn : x.1 0 p = 0 ∨ x.1 4 p ≠ 0 ∨ p = 1
  · rw [zComes_no hn]; omega
  · rw [zComes_yes hn]
    have h0 : x.1 0 p ≠ 0 := fun z => hn (Or.inl z)
    have h4 : x.1 4 p = 0 := Classical.not_not.mp (fun z => hn (Or.inr (Or.inl z)))
    have h1 : p ≠ 1 := fun z => hn (Or.inr (Or.inr z))
    have e0 : zCont x.1 p s 0 = x.1 0 := zCont_off (by decide)
    have e4 : zCont x.1 p s 4 = x.1 4 := zCont_off (by decide)
    have a1 : zPhi w L b (zCont x.1 p s, x.2) ≤ zPhi w L b x := zPhi_mo (zMo.of e0 e4) (fun k hk => zCont_bit hk)
    have a2 := zPhi_take hw (x := (zCont x.1 p s, x.2)) (p := p) (s := s) hp (by show zCont x.1 p s 0 p ≠ 0; rw [e0]; exact h0) h1 (by show zCont x.1 p s 4 p = 0; rw [e4]; exact h4) hs
    have a3 := zPhi_del hw (x := zTake (zCont x.1 p s, x.2) p s) (p := p) hp (by rw [zTake_0 (Or.inl rfl)]; show zCont x.1 p s 0 p ≠ 0; rw [e0]; exact h0) h1
    omega
theorem zPhi_tell {w : Nat → Nat} {L b : Nat} {x : zS × List zEv} {j : Nat} : zPhi w L b (zTell x j) ≤ zPhi w L b x + w 4 := by
  by_cases h1 : j = 1
  · rw [zTell_1 h1]; omega
  · rw [zTell_n h1]
    have h9 := zPhi_check (w := w) (L := L) (b := b) (x := x) (p := j)
    have e : zPhi w L b (zCheck x.1 j, x.2 ++ [(4, j)]) = zPhi w L b (zCheck x.1 j, x.2) + w 4 := zPhi_add rfl
    omega
theorem zPhi_over {w : Nat → Nat} {L b d : Nat} (hw : zWts w L b d) {x : zS × List zEv} {p : Nat} : zPhi w L b (zOver x p) + d ≤ zPhi w L b x + w 9 := by
  have hd := hw.2.1
  by_cases h0 : x.1 0 p = 0
  · rw [zOver_no h0]; omega
  · rw [zOver_yes h0 rfl]
    split
    · have h1 := zPhi_tell (w := w) (L := L) (b := b) (x := (zu x.1 0 p 0, x.2)) (j := pn (x.1 1 p))
      have h2 : zPhi w L b (zu x.1 0 p 0, x.2) ≤ zPhi w L b x := zPhi_mo zMo.rf.gone (fun k hk => hk)
      omega
    · have h1 := zPhi_tell (w := w) (L := L) (b := b) (x := (x.1, x.2)) (j := pn (x.1 1 p))
      have h2 : zPhi w L b (x.1, x.2) = zPhi w L b x := rfl
      omega
theorem zPhi_stands {w : Nat → Nat} {L b d : Nat} (hw : zWts w L b d) {x : zS × List zEv} {p : Nat} : zPhi w L b (zStands x p) + d ≤ zPhi w L b x + w 10 := by
  have hd := hw.2.2.1
  by_cases hs : x.1 0 p ≠ 0 ∧ x.1 5 p ≠ 0
  · rw [zStands_yes hs]
    have h1 := zPhi_tell (w := w) (L := L) (b := b) (x := x) (j := pn (x.1 1 p))
    omega
  · rw [zStands_no hs]; omega
theorem zPhi_event {w : Nat → Nat} {L b d : Nat} (hw : zWts w L b d) {σ : zS} {q : List zEv} {e : zEv} (he : zEvOk e) : zPhi w L b (zEvent (σ, q) e) + d ≤ zPhi w L b (σ, e :: q) := by
  have e9 : zPhi w L b (σ, e :: q) = zPhi w L b (σ, q) + w e.1 := by
    rw [zPhi_mk, zPhi_mk, zWq_cons]
    omega
  rw [e9]
  by_cases h9 : e.1 = 9
  · rw [zEvent_9 h9, h9]; exact zPhi_over hw
  · by_cases h10 : e.1 = 10
    · rw [zEvent_10 h10, h10]; exact zPhi_stands hw
    · have hlt : e.1 < 9 := by have := he.1; omega
      rw [zEvent_s hlt]
      exact zPhi_comes hw he.2.2.1 hlt
def wF (s : Nat) : Nat := if s = 5 then 3 else if s = 6 then 3 else if s = 9 then 2 else if s = 10 then 2 else 1
theorem wF_ok : zWts wF 207 2 1 := ⟨fun s _ => by unfold wF; split <;> (try split) <;> (try split) <;> (try split) <;> omega, by decide, by decide, by decide, by decide, by decide, by decide, by decide⟩
def wL (_ : Nat) : Nat := 1
theorem wL_ok : zWts wL 165 1 0 := ⟨fun s _ => Nat.zero_le _, by decide, by decide, by decide, by decide, by decide, by decide, by decide⟩
abbrev zPF1 (x : zS × List zEv) : Nat := zPhi wF 207 2 x
abbrev zPL1 (x : zS × List zEv) : Nat := zPhi wL 165 1 x
theorem wF_1 (s : Nat) : 1 ≤ wF s := by unfold wF; split <;> (try split) <;> (try split) <;> (try split) <;> omega
theorem zPL_len (x : zS × List zEv) : x.2.length ≤ zPL1 x := by
  have := zWq_len (w := wL) (q := x.2) (fun _ _ => Nat.le_refl _)
  show _ ≤ zSum _ 41 + zWq wL x.2
  omega
theorem zPF_len (x : zS × List zEv) : x.2.length ≤ zPF1 x := by
  have := zWq_len (w := wF) (q := x.2) (fun e _ => wF_1 e.1)
  show _ ≤ zSum _ 41 + zWq wF x.2
  omega
theorem zRun_of : ∀ {n : Nat} {σ : zS} {q : List zEv}, zGood σ q → zPF1 (σ, q) ≤ n → zPL1 (σ, q) + 300 < 8192 → zRun n σ q
  | 0, σ, [], _, _, _ => trivial
  | n + 1, σ, [], _, _, _ => trivial
  | 0, σ, e :: q, hg, hF, hL => by
    have := zPF_len (σ, e :: q)
    rw [List.length_cons] at this
    omega
  | n + 1, σ, e :: q, hg, hF, hL => by
    have he := hg.2 e List.mem_cons_self
    have hW := hg.1
    have f1 := zPhi_event wF_ok (σ := σ) (q := q) he.1
    have f2 := zPhi_event wL_ok (σ := σ) (q := q) he.1
    refine ⟨he.1, hW.z, fun h0 h4 h1 => hW.lv h0 h1, hW.2.2.2.2.2.2.1 _, fun h9 h0 => ?_, ?_, zRun_of hg.event ?_ ?_⟩
    · obtain ⟨j, a, b, c, _⟩ := hW.par h0 (he.1.2.2.2 h9)
      exact ⟨j, a, b, c⟩
    · have := zPL_len (σ, e :: q)
      rw [List.length_cons] at this
      omega
    · show zPhi wF 207 2 (zEvent (σ, q) e) ≤ n
      have h9 : zPhi wF 207 2 (σ, e :: q) ≤ n + 1 := hF
      omega
    · show zPhi wL 165 1 (zEvent (σ, q) e) + 300 < 8192
      have h9 : zPhi wL 165 1 (σ, e :: q) + 300 < 8192 := hL
      omega
theorem zCount_le : ∀ {n : Nat} {σ : zS} {q : List zEv}, zGood σ q → zCount n σ q ≤ zPF1 (σ, q)
  | 0, σ, q, _ => Nat.zero_le _
  | n + 1, σ, [], _ => Nat.zero_le _
  | n + 1, σ, e :: q, hg => by
    have f1 := zPhi_event wF_ok (σ := σ) (q := q) (hg.2 e List.mem_cons_self).1
    have ih := zCount_le (n := n) hg.event
    show zCount n (zEvent (σ, q) e).1 (zEvent (σ, q) e).2 + 1 ≤ zPhi wF 207 2 (σ, e :: q)
    have h9 : zCount n (zEvent (σ, q) e).1 (zEvent (σ, q) e).2 ≤ zPhi wF 207 2 (zEvent (σ, q) e) := ih
    omega
theorem zCount_len : ∀ {n : Nat} {σ : zS} {q : List zEv}, zGood σ q → zRun n σ q → q.length ≤ zCount n σ q
  | 0, σ, [], _, _ => Nat.le_refl _
  | n + 1, σ, [], _, _ => Nat.le_refl _
  | 0, σ, e :: q, _, h => h.elim
  | n + 1, σ, e :: q, hg, h => by
    have ih := zCount_len (n := n) hg.event h.2.2.2.2.2.2
    have hs := zSt.event (x := (σ, q)) hg.1 (hg.2 e List.mem_cons_self)
    obtain ⟨_, _, q', h9, _⟩ := hs
    have h8 : (zEvent (σ, q) e).2.length = q.length + q'.length := by rw [h9, List.length_append]
    show q.length + 1 ≤ zCount n (zEvent (σ, q) e).1 (zEvent (σ, q) e).2 + 1
    omega
/-- ahead of a call -/
theorem zPhi_0 {w : Nat → Nat} {L b : Nat} {σ : zS} (h0 : σ 0 0 = 0) : zPhi w L b (σ, []) ≤ 39 * L + 41 * b := by
  have h1 : zSum (zPt L b σ) 41 ≤ zSum (fun k => (if k = 0 ∨ k = 1 then 0 else L) + b) 41 := zSum_le (fun k _ => by
    unfold zPt
    by_cases hk : k = 0 ∨ k = 1
    · rw [if_pos hk, if_neg (fun z => by rcases hk with y | y
                                         · rw [y] at z; exact z.1 h0
                                         · exact z.2.2 y)]
      split <;> omega
    · rw [if_neg hk]
      split <;> split <;> omega)
  have h2 : zSum (fun k => (if k = 0 ∨ k = 1 then 0 else L) + b) 41 = 39 * L + 41 * b := by
    simp [zSum]
    omega
  rw [zPhi_mk, show zWq w [] = 0 from rfl]
  omega
theorem zPhi_q {w : Nat → Nat} {L b : Nat} {σ : zS} {q : List zEv} : zPhi w L b (σ, q) = zPhi w L b (σ, []) + zWq w q := rfl
