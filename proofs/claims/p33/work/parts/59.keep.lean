/-! what holds between calls is kept by each call -/
theorem zGood.go : ∀ {n : Nat} {σ : zS} {q : List zEv}, zGood σ q → zWf (zGo n σ q)
  | 0, _, _, h => h.1
  | n + 1, _, [], h => h.1
  | n + 1, _, _ :: _, h => zGood.go (n := n) h.event
theorem zReady_of {X : zS × List zEv} (hg : zGood X.1 X.2) (h1 : zPF1 X ≤ 8300) (h2 : zPL1 X + 300 < 8192) : zReady 8300 X := ⟨hg, zRun_of hg h1 h2, Nat.le_trans (zCount_le hg) (Nat.le_trans h1 (Nat.le_of_ble_eq_true rfl))⟩
theorem zReady.x {N : Nat} {X : zS × List zEv} (h : zReady N X) : zRunX N X := by
  intro s q hX
  have h9 := h.2.1
  rw [hX] at h9
  exact h9
theorem zReady.wf {N : Nat} {X : zS × List zEv} (h : zReady N X) : zWf (zFin N X) := h.1.go
theorem zPF1_0 {σ : zS} (h : zWf σ) : zPF1 (σ, []) ≤ 8155 := zPhi_0 (w := wF) (L := 207) (b := 2) h.z
theorem zPL1_0 {σ : zS} (h : zWf σ) : zPL1 (σ, []) ≤ 6476 := zPhi_0 (w := wL) (L := 165) (b := 1) h.z
theorem zReady_sig {σ : zS} {q : List zEv} (h : zWf σ) (hq : ∀ e ∈ q, zEvK σ e) (hw : zWq wF q ≤ 123) (hl : zWq wL q ≤ 41) : zReady 8300 (σ, q) := by
  have a1 := zPF1_0 h
  have a2 := zPL1_0 h
  refine zReady_of ⟨h, hq⟩ ?_ ?_
  · show zPhi wF 207 2 (σ, q) ≤ 8300
    rw [zPhi_q]
    have a3 : zPhi wF 207 2 (σ, []) ≤ 8155 := a1
    omega
  · show zPhi wL 165 1 (σ, q) + 300 < 8192
    rw [zPhi_q]
    have a3 : zPhi wL 165 1 (σ, []) ≤ 6476 := a2
    omega
theorem zReady_one {σ : zS} {s k : Nat} (h : zWf σ) (hs : s < 9) (hk : 1 ≤ k ∧ k < 41) : zReady 8300 (σ, [(s, k)]) := by
  refine zReady_sig h (fun e he => by rw [List.mem_singleton.mp he]; exact zEvK.sig hs hk) ?_ ?_
  · rw [zWq_one]
    show wF s ≤ 123
    unfold wF
    split <;> (try split) <;> (try split) <;> (try split) <;> omega
  · rw [zWq_one]
    show 1 ≤ 41
    omega
theorem zReady_sends {σ : zS} {g : Int32} {s : Nat} (h : zWf σ) (hs : s < 9) : zReady 8300 (σ, zSends σ g s 41) := by
  have hl := zSends_len (σ := σ) (g := g) (s := s) (n := 41)
  have h3 : wF s ≤ 3 := by unfold wF; split <;> (try split) <;> (try split) <;> (try split) <;> omega
  refine zReady_sig h (zSends_ev (fun k hk => h.in hk) hs) ?_ ?_
  · have h1 := zWq_le (w := wF) (c := wF s) (q := zSends σ g s 41) (fun e he => zSends_w e he)
    have h2 := Nat.mul_le_mul h3 hl
    omega
  · have h1 := zWq_le (w := wL) (c := 1) (q := zSends σ g s 41) (fun e he => Nat.le_refl _)
    omega
theorem zReady_term {σ : zS} {p : Nat} {a b : Int32} (h : zWf σ) (h0 : σ 0 p ≠ 0) (h1 : p ≠ 1) (h4 : σ 4 p = 0) (ha : a = 0 ∨ a = 1) : zReady 8300 (zTerm (σ, []) p a b) := by
  have a1 := zPF1_0 h
  have a2 := zPL1_0 h
  have hp := (h.in h0).2
  have f1 := zPhi_term wF_ok (x := (σ, [])) (p := p) (a := a) (c := b) hp h0 h1 h4
  have f2 := zPhi_term wL_ok (x := (σ, [])) (p := p) (a := a) (c := b) hp h0 h1 h4
  refine zReady_of ((zSt.term (x := (σ, [])) h h0 h1 ha).good (fun e he => absurd he List.not_mem_nil)) ?_ ?_
  · exact Nat.le_trans f1 (Nat.le_trans a1 (by omega))
  · have : zPhi wL 165 1 (zTerm (σ, []) p a b) ≤ 6476 := Nat.le_trans f2 a2
    show zPhi wL 165 1 (zTerm (σ, []) p a b) + 300 < 8192
    omega
theorem zReady_del {σ : zS} {p : Nat} (h : zWf σ) (h0 : σ 0 p ≠ 0) (h1 : p ≠ 1) : zReady 8300 (zDel (σ, []) p) := by
  have a1 := zPF1_0 h
  have a2 := zPL1_0 h
  have hp := (h.in h0).2
  have f1 := zPhi_del wF_ok (x := (σ, [])) (p := p) hp h0 h1
  have f2 := zPhi_del wL_ok (x := (σ, [])) (p := p) hp h0 h1
  refine zReady_of ((zSt.del (x := (σ, [])) h h0 h1).good (fun e he => absurd he List.not_mem_nil)) ?_ ?_
  · exact Nat.le_trans f1 (Nat.le_trans a1 (by omega))
  · have : zPhi wL 165 1 (zDel (σ, []) p) ≤ 6476 := Nat.le_trans f2 a2
    show zPhi wL 165 1 (zDel (σ, []) p) + 300 < 8192
    omega
/-! the changes of the calls that run no events -/
theorem zWf.waits {σ : zS} (h : zWf σ) {p : Nat} {c f : Int32} (h4 : σ 4 p = 0) (h1 : p ≠ 1) (hf : f = 0 ∨ f = 1) : zWf (zCheck (zWset σ p c f) p) := (zSt.check (x := (zWset σ p c f, [])) (p := p) (h.wset h4 h1 hf)).1
theorem zWf.p13 {σ : zS} (h : zWf σ) {p : Nat} {v : Int32} (h1 : p ≠ 1) (hv : v = 0 ∨ v = 1) : zWf (zu σ 13 p v) := by
  obtain ⟨c1, c2, c3, c4, c5, c6, c7, c8⟩ := h
  refine ⟨c1, c2, c3, c4, ?_, fun k => ?_, c7, c8⟩
  · refine ⟨c5.1, c5.2.1, c5.2.2.1, c5.2.2.2.1, c5.2.2.2.2.1, c5.2.2.2.2.2.1, c5.2.2.2.2.2.2.1, ?_⟩
    rw [zu_iff, if_neg (fun z => h1 z.symm)]
    exact c5.2.2.2.2.2.2.2
  · refine ⟨(c6 k).1, (c6 k).2.1, (c6 k).2.2.1, (c6 k).2.2.2.1, (c6 k).2.2.2.2.1, ?_, (c6 k).2.2.2.2.2.2⟩
    rw [zu_iff]
    split
    · exact hv
    · exact (c6 k).2.2.2.2.2.1
theorem zWf.p2 {σ : zS} (h : zWf σ) {p : Nat} {v : Int32} (h1 : p ≠ 1) (hv : ∃ g, v = nI g ∧ 1 ≤ g ∧ g < 41) : zWf (zu σ 2 p v) := by
  obtain ⟨c1, c2, c3, c4, c5, c6, c7, c8⟩ := h
  refine ⟨fun k k0 => ?_, c2, c3, c4, ?_, c6, c7, c8⟩
  · obtain ⟨a1, a2, a3, a4, a5⟩ := c1 k k0
    refine ⟨a1, a2, ?_, a4, a5⟩
    rw [zu_iff]
    split
    · exact hv
    · exact a3
  · refine ⟨c5.1, c5.2.1, ?_, c5.2.2.2⟩
    rw [zu_iff, if_neg (fun z => h1 z.symm)]
    exact c5.2.2.1
theorem zWf.p3 {σ : zS} (h : zWf σ) {p : Nat} {v : Int32} (h1 : p ≠ 1) (hv : ∃ g, v = nI g ∧ 1 ≤ g ∧ g < 41) : zWf (zu σ 3 p v) := by
  obtain ⟨c1, c2, c3, c4, c5, c6, c7, c8⟩ := h
  refine ⟨fun k k0 => ?_, c2, c3, c4, ?_, c6, c7, c8⟩
  · obtain ⟨a1, a2, a3, a4, a5⟩ := c1 k k0
    refine ⟨a1, a2, a3, ?_, a5⟩
    rw [zu_iff]
    split
    · exact hv
    · exact a4
  · refine ⟨c5.1, c5.2.1, c5.2.2.1, ?_, c5.2.2.2.2⟩
    rw [zu_iff, if_neg (fun z => h1 z.symm)]
    exact c5.2.2.2.1
theorem zWf.top {σ : zS} (h : zWf σ) {a b : Int32} (ha : ∃ g, a = nI g ∧ 1 ≤ g ∧ g < 41) : zWf (zu (zu σ 21 0 a) 22 0 b) := by
  obtain ⟨c1, c2, c3, c4, c5, c6, c7, c8⟩ := h
  exact ⟨c1, c2, c3, c4, c5, c6, c7, Or.inr ha⟩
theorem zWf.p22 {σ : zS} (h : zWf σ) {b : Int32} : zWf (zu σ 22 0 b) := by
  obtain ⟨c1, c2, c3, c4, c5, c6, c7, c8⟩ := h
  exact ⟨c1, c2, c3, c4, c5, c6, c7, c8⟩
theorem zWf.acts {σ τ : zS} (h : zWf σ) (ho : ∀ g, g ≠ 9 → g ≠ 11 → τ g = σ g) (h9 : ∀ k s, σ 0 k ≠ 0 → s < 9 → τ 9 (9 * k + s) = 0 ∨ τ 9 (9 * k + s) = 1 ∨ τ 9 (9 * k + s) = 2) (h11 : ∀ k, τ 11 k &&& 511 = τ 11 k) : zWf τ := by
  obtain ⟨c1, c2, c3, c4, c5, c6, c7, c8⟩ := h
  refine ⟨fun k k0 => ?_, ?_, ?_, ?_, ?_, ?_, h11, ?_⟩
  · rw [ho 0 (by decide) (by decide)] at k0
    rw [ho 2 (by decide) (by decide), ho 3 (by decide) (by decide)]
    obtain ⟨a1, a2, a3, a4, a5⟩ := c1 k k0
    exact ⟨a1, a2, a3, a4, fun s hs => h9 k s k0 hs⟩
  · rw [ho 0 (by decide) (by decide), ho 1 (by decide) (by decide), ho 4 (by decide) (by decide)]; exact c2
  · rw [ho 0 (by decide) (by decide), ho 4 (by decide) (by decide), ho 5 (by decide) (by decide), ho 6 (by decide) (by decide), ho 14 (by decide) (by decide)]; exact c3
  · rw [ho 0 (by decide) (by decide), ho 1 (by decide) (by decide)]; exact c4
  · rw [ho 0 (by decide) (by decide), ho 1 (by decide) (by decide), ho 2 (by decide) (by decide), ho 3 (by decide) (by decide), ho 4 (by decide) (by decide), ho 5 (by decide) (by decide), ho 6 (by decide) (by decide), ho 13 (by decide) (by decide)]; exact c5
  · rw [ho 0 (by decide) (by decide), ho 4 (by decide) (by decide), ho 5 (by decide) (by decide), ho 6 (by decide) (by decide), ho 8 (by decide) (by decide), ho 13 (by decide) (by decide), ho 17 (by decide) (by decide)]; exact c6
  · rw [ho 21 (by decide) (by decide)]; exact c8
theorem zWf.setA {σ : zS} (h : zWf σ) {p : Nat} {s a : Int32} (hs : pn s < 9) (ha : a = 0 ∨ a = 1 ∨ a = 2) : zWf (zSetA σ p s a) := by
  refine h.acts (fun g h9 h11 => by unfold zSetA; rw [zu_off h11, zu_off h9]) (fun k t k0 ht => ?_) (fun k => ?_)
  · unfold zSetA
    rw [zu_off (by decide), zu_iff]
    split
    · exact ha
    · exact h.act k0 ht
  · unfold zSetA
    rw [zu_iff]
    split
    · split
      · exact zClr_511 (by omega) (h.2.2.2.2.2.2.1 p)
      · exact h.2.2.2.2.2.2.1 p
    · rw [zu_off (by decide)]
      exact h.2.2.2.2.2.2.1 k
theorem zWf.exec {σ : zS} (h : zWf σ) {p : Nat} : zWf (zExecN σ p 9) := by
  refine h.acts (fun g h9 h11 => zExecN_off h9 h11 9) (fun k s k0 hs => ?_) (fun k => ?_)
  · by_cases hk : k = p
    · rw [hk, zExecN_9 9 s]
      split
      · exact Or.inl rfl
      · rw [hk] at k0
        exact h.act k0 hs
    · rw [zExecN_9o 9 (Nat.le_refl _) (fun t ht => by omega)]
      exact h.act k0 hs
  · by_cases hk : k = p
    · rw [hk]
      refine zbit_small (fun t ht hb => ?_)
      rw [zExecN_11 9 (Nat.le_refl _) t ht, Bool.and_eq_true] at hb
      exact zbit_9 (h.2.2.2.2.2.2.1 p) ht hb.1
    · rw [zExecN_11o hk]
      exact h.2.2.2.2.2.2.1 k
theorem zWf.fork {σ : zS} (h : zWf σ) {x : Int32} {f : Nat} (hx : x = nI (pn x)) (h0 : σ 0 (pn x) ≠ 0) (h4 : σ 4 (pn x) = 0) (hf1 : 1 ≤ f) (hf : f < 41) (hf0 : σ 0 f = 0) : zWf (zFork σ x f) := by
  have hpf : pn x ≠ f := fun z => h0 (by rw [z]; exact hf0)
  have hpin := h.in h0
  have hf11 : f ≠ 1 := fun y => by rw [y, h.x.1] at hf0; exact absurd hf0 (by decide)
  obtain ⟨e0, e1, e2, e3, e4, e5, e6, e10, e11, e12, e13, e17, e18, e19, e20⟩ := zFork_f (σ := σ) (x := x) hpf
  have o : ∀ g k, g ≠ 9 → k ≠ f → zFork σ x f g k = σ g k := fun g k h9 hk => zFork_o h9 hk
  have t0 : ∀ k, zFork σ x f 0 k ≠ 0 → k = f ∨ (k ≠ f ∧ σ 0 k ≠ 0) := fun k z => by
    by_cases hk : k = f
    · exact Or.inl hk
    · exact Or.inr ⟨hk, by rw [o 0 k (by decide) hk] at z; exact z⟩
  obtain ⟨c1, c2, c3, ⟨c, c4⟩, c5, c6, c7, c8⟩ := h
  refine ⟨fun k z => ?_, fun k z k1 => ?_, fun k z z4 => ?_, ⟨zAt c f (c (pn x) + 1), fun k z k1 => ?_⟩, ?_, fun k => ?_, fun k => ?_, ?_⟩
  · rcases t0 k z with rfl | ⟨hk, k0⟩
    · obtain ⟨b1, b2, b3, b4, b5⟩ := c1 _ h0
      rw [e2, e3]
      exact ⟨hf1, hf, b3, b4, fun s hs => by rw [zFork_9f hs]; exact b5 s hs⟩
    · obtain ⟨b1, b2, b3, b4, b5⟩ := c1 k k0
      rw [o 2 k (by decide) hk, o 3 k (by decide) hk]
      exact ⟨b1, b2, b3, b4, fun s hs => by rw [zFork_9 (by omega)]; exact b5 s hs⟩
  · rcases t0 k z with rfl | ⟨hk, k0⟩
    · exact ⟨pn x, e1.trans hx, hpin.1, hpin.2, hpf, by rw [o 0 _ (by decide) hpf]; exact h0, by rw [o 4 _ (by decide) hpf]; exact h4⟩
    · obtain ⟨j, b1, b2, b3, b4, b5, b6⟩ := c2 k k0 k1
      have hjf : j ≠ f := fun y => by rw [y] at b5; exact b5 hf0
      exact ⟨j, by rw [o 1 k (by decide) hk]; exact b1, b2, b3, b4, by rw [o 0 j (by decide) hjf]; exact b5, by rw [o 4 j (by decide) hjf]; exact b6⟩
  · rcases t0 k z with rfl | ⟨hk, k0⟩
    · exact absurd e4 z4
    · rw [o 4 k (by decide) hk] at z4
      rw [o 6 k (by decide) hk, o 5 k (by decide) hk, o 14 k (by decide) hk]
      exact c3 k k0 z4
  · rcases t0 k z with rfl | ⟨hk, k0⟩
    · rw [e1, zAt_y, zAt_n hpf]
      omega
    · obtain ⟨j, b1, b2, b3, b4, b5, b6⟩ := c2 k k0 k1
      have hjf : j ≠ f := fun y => by rw [y] at b5; exact b5 hf0
      have h9 := c4 k k0 k1
      rw [o 1 k (by decide) hk, zAt_n hk, b1, show pn (nI j) = j from nI_clamp (by omega), zAt_n hjf]
      rw [b1, show pn (nI j) = j from nI_clamp (by omega)] at h9
      exact h9
  · have n1 : (1 : Nat) ≠ f := fun y => hf11 y.symm
    rw [o 0 1 (by decide) n1, o 1 1 (by decide) n1, o 2 1 (by decide) n1, o 3 1 (by decide) n1, o 4 1 (by decide) n1, o 5 1 (by decide) n1, o 6 1 (by decide) n1, o 13 1 (by decide) n1]
    exact c5
  · by_cases hk : k = f
    · rw [hk, e0, e4, e5, e6, e13, e17]
      refine ⟨Or.inr rfl, Or.inl rfl, Or.inl rfl, Or.inl rfl, ?_, Or.inl rfl, Or.inl rfl⟩
      have e8 : zFork σ x f 8 f = σ 8 f := by simp [zFork, zFork3, zForkA, zFork1, zu]
      rw [e8]
      exact (c6 f).2.2.2.2.1
    · rw [o 0 k (by decide) hk, o 4 k (by decide) hk, o 5 k (by decide) hk, o 6 k (by decide) hk, o 8 k (by decide) hk, o 13 k (by decide) hk, o 17 k (by decide) hk]
      exact c6 k
  · by_cases hk : k = f
    · rw [hk, e11]; decide
    · rw [o 11 k (by decide) hk]; exact c7 k
  · rw [zFork_top (by decide)]; exact c8
theorem zWf_init : zWf zInit := by
  have i0 : ∀ k, zInit 0 k ≠ 0 → k = 1 := fun k z => zInit_0.mp z
  refine ⟨fun k z => ?_, fun k z k1 => absurd (i0 k z) k1, fun k z z4 => absurd rfl z4, ⟨fun _ => 0, fun k z k1 => absurd (i0 k z) k1⟩, ⟨rfl, rfl, rfl, rfl, rfl, rfl, rfl, rfl⟩, fun k => ?_, fun k => (by show (0 : Int32) &&& 511 = 0; decide), Or.inl rfl⟩
  · have hk := i0 k z
    subst hk
    exact ⟨by decide, by decide, ⟨1, rfl, by decide, by decide⟩, ⟨1, rfl, by decide, by decide⟩, fun s hs => Or.inl rfl⟩
  · refine ⟨?_, Or.inl rfl, Or.inl rfl, Or.inl rfl, Or.inl rfl, Or.inl rfl, Or.inl rfl⟩
    show (if k = 1 then (1 : Int32) else 0) = 0 ∨ (if k = 1 then (1 : Int32) else 0) = 1
    by_cases h : k = 1
    · rw [if_pos h]; exact Or.inr rfl
    · rw [if_neg h]; exact Or.inl rfl
