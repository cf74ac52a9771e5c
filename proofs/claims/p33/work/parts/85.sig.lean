/-! what a signal does to the process that it is sent to, when all events have come to their end -/
abbrev zGone (σ : zS) (p : Nat) : Prop := σ 0 p = 0 ∨ σ 4 p ≠ 0
theorem zGone.mo {σ τ : zS} {p : Nat} (h : zGone σ p) (hm : zMo σ τ) : zGone τ p := by
  by_cases h0 : τ 0 p = 0
  · exact Or.inl h0
  · exact Or.inr (hm.2 p h0 (h.resolve_left (hm.1 p h0)))
theorem zGo_nil {n : Nat} {σ : zS} : zGo n σ [] = σ := by cases n <;> rfl
theorem zGo_cons {n : Nat} {σ : zS} {e : zEv} {q : List zEv} (hn : 0 < n) : zGo n σ (e :: q) = zGo (n - 1) (zEvent (σ, q) e).1 (zEvent (σ, q) e).2 := by
  cases n with
  | zero => exact absurd hn (by decide)
  | succ n => rfl
theorem zDfold_stop {x : zS × List zEv} {p : Nat} (h : x.1 4 p ≠ 0 ∨ x.1 5 p ≠ 0) : ∀ n : Nat, zDfold p x n = x
  | 0 => rfl
  | n + 1 => by
    rw [zDfold_succ, zDfold_stop h n]
    exact zDstep_no (fun z => h.elim (fun y => y z.1) (fun y => y z.2.1))
theorem zDel_stop {x : zS × List zEv} {p : Nat} (h : x.1 5 p ≠ 0) : zDel x p = x := by
  have e := zDfold_stop (x := x) (p := p) (Or.inr h) 9
  have e1 : (zDel x p).1 = x.1 := by rw [zDel_1, e]; exact zCheck_idle (Or.inr h)
  have e2 : (zDel x p).2 = x.2 := by rw [zDel_2, e]
  exact Prod.ext e1 e2
/-- a stopped process that gets a signal which is no KILL, no STOP, no CONT -/
theorem zComes_held {σ : zS} {p s : Nat} (h0 : σ 0 p ≠ 0) (h4 : σ 4 p = 0) (h1 : p ≠ 1) (h5 : σ 5 p ≠ 0) (s2 : s ≠ 2) (s7 : s ≠ 7) : (zComes (σ, []) p s).2 = [] ∧ (zComes (σ, []) p s).1 0 p ≠ 0 ∧ (zComes (σ, []) p s).1 4 p = 0 ∧ (zComes (σ, []) p s).1 5 p ≠ 0 ∧ (zComes (σ, []) p s).1 12 p = σ 12 p := by
  rw [zComes_yes (x := (σ, [])) (fun z => z.elim h0 (fun z => z.elim (fun y => y h4) h1))]
  have c5 : zCont σ p s 5 p ≠ 0 := by
    unfold zCont
    rw [if_neg s7]
    split
    · exact h5
    · exact h5
  have c0 : zCont σ p s 0 p ≠ 0 := by rw [zCont_off (by decide)]; exact h0
  have c4 : zCont σ p s 4 p = 0 := by rw [zCont_off (by decide)]; exact h4
  have c12 : zCont σ p s 12 p = σ 12 p := by rw [zCont_off (by decide)]
  show (zDel (zTake (zCont σ p s, []) p s) p).2 = [] ∧ (zDel (zTake (zCont σ p s, []) p s) p).1 0 p ≠ 0 ∧ (zDel (zTake (zCont σ p s, []) p s) p).1 4 p = 0 ∧ (zDel (zTake (zCont σ p s, []) p s) p).1 5 p ≠ 0 ∧ (zDel (zTake (zCont σ p s, []) p s) p).1 12 p = σ 12 p
  generalize zCont σ p s = τ at c5 c0 c4 c12
  have ht : zTake (τ, []) p s = (τ, []) ∨ zTake (τ, []) p s = (zu τ 11 p (τ 11 p ||| zSh s), []) := by
    by_cases s5 : s = 5
    · exact Or.inl (zTake_5 (x := (τ, [])) s5 c5)
    · by_cases hh : zHeed τ p s
      · exact Or.inr (zTake_p (x := (τ, [])) s2 s5 hh)
      · exact Or.inl (zTake_n (x := (τ, [])) s2 s5 hh)
  rcases ht with e | e <;> rw [e]
  · rw [zDel_stop (x := (τ, [])) c5]
    exact ⟨rfl, c0, c4, c5, c12⟩
  · rw [zDel_stop (x := (zu τ 11 p (τ 11 p ||| zSh s), [])) c5]
    exact ⟨rfl, c0, c4, c5, c12⟩
/-- a process that gets KILL is gone -/
theorem zComes_kill {σ : zS} {p : Nat} (hW : zWf σ) (h0 : σ 0 p ≠ 0) (h4 : σ 4 p = 0) (h1 : p ≠ 1) : zGone (zComes (σ, []) p 2).1 p := by
  rw [zComes_yes (x := (σ, [])) (fun z => z.elim h0 (fun z => z.elim (fun y => y h4) h1))]
  have c0 : zCont σ p 2 0 p ≠ 0 := by rw [zCont_off (by decide)]; exact h0
  have cW : zWf (zCont σ p 2) := hW.cont
  show zGone (zDel (zTake (zCont σ p 2, []) p 2) p).1 p
  generalize zCont σ p 2 = τ at c0 cW
  rw [zTake_2 (x := (τ, [])) rfl]
  have t := zSt.term (x := (τ, [])) (p := p) (a := 1) (b := 2) cW c0 h1 (Or.inr rfl)
  have t0 : (zTerm (τ, []) p 1 2).1 0 p ≠ 0 := by show zT3 τ p 1 2 0 p ≠ 0; rw [zT3_0]; exact c0
  have t4 : (zTerm (τ, []) p 1 2).1 4 p ≠ 0 := by show zT3 τ p 1 2 4 p ≠ 0; rw [zT3_4]; decide
  have g : zGone (zTerm (τ, []) p 1 2).1 p := Or.inr t4
  exact g.mo (zSt.del (x := zTerm (τ, []) p 1 2) t.1 t0 h1).2.1
abbrev zWoke (x : zS × List zEv) (p : Nat) : Prop := x.1 4 p ≠ 0 ∨ (x.2 = [] ∧ x.1 5 p = 0 ∧ zbit (x.1 11 p) 6 = false)
theorem zWoke.dstep {x : zS × List zEv} {p s : Nat} (hs : s < 9) (h : zWoke x p) : zWoke (zDstep p x s) p := by
  by_cases hc : x.1 4 p = 0 ∧ x.1 5 p = 0 ∧ zOpen x.1 p &&& zSh s ≠ 0
  · obtain ⟨hq, h5, h6⟩ := h.resolve_left (fun z => z hc.1)
    have hbit : zbit (zOpen x.1 p) s = true := (zbit_shne (by omega)).mp hc.2.2
    rw [zopen_bit (by omega), Bool.and_eq_true] at hbit
    have s6 : s ≠ 6 := fun z => by rw [z, h6] at hbit; exact absurd hbit.1 (by decide)
    rw [zDstep_yes hc]
    have e11 : zu x.1 11 p (zClr (x.1 11 p) s) 11 p = zClr (x.1 11 p) s := zu_self
    have c6 : zbit (zu x.1 11 p (zClr (x.1 11 p) s) 11 p) 6 = false := by rw [e11, zbit_clr (by omega) (by decide), h6]; rfl
    have c5 : zu x.1 11 p (zClr (x.1 11 p) s) 5 p = 0 := h5
    generalize zu x.1 11 p (zClr (x.1 11 p) s) = τ at c6 c5
    by_cases a2 : zAct τ p s = 2
    · rw [zEff_c (x := (τ, x.2)) a2]
      exact Or.inr ⟨hq, by show zCatch τ p 5 p = 0; rw [zCatch_off (by decide)]; exact c5, by show zbit (zCatch τ p 11 p) 6 = false; rw [zCatch_off (by decide)]; exact c6⟩
    by_cases a0 : zAct τ p s = 0
    · rw [zEff_t (x := (τ, x.2)) a0 s6]
      exact Or.inl (by show zT3 τ p 1 (nI s) 4 p ≠ 0; rw [zT3_4]; decide)
    · rw [zEff_i (x := (τ, x.2)) a2 a0]
      exact Or.inr ⟨hq, c5, c6⟩
  · rw [zDstep_no hc]; exact h
theorem zWoke.dfold {x : zS × List zEv} {p : Nat} (h : zWoke x p) : ∀ {n : Nat}, n ≤ 9 → zWoke (zDfold p x n) p
  | 0, _ => h
  | n + 1, hn => by rw [zDfold_succ]; exact (zWoke.dfold h (n := n) (by omega)).dstep (by omega)
theorem zWoke.del {x : zS × List zEv} {p : Nat} (h : zWoke x p) : zWoke (zDel x p) p := by
  have d := h.dfold (Nat.le_refl 9)
  unfold zWoke
  rw [zDel_1, zDel_2, zCheck_off (by decide), zCheck_off (by decide), zCheck_off (by decide)]
  exact d
/-- a process that gets CONT runs on, or is gone -/
theorem zComes_cont {σ : zS} {p : Nat} (h0 : σ 0 p ≠ 0) (h4 : σ 4 p = 0) (h1 : p ≠ 1) : zWoke (zComes (σ, []) p 7) p := by
  rw [zComes_yes (x := (σ, [])) (fun z => z.elim h0 (fun z => z.elim (fun y => y h4) h1))]
  have e11 : zCont σ p 7 11 p = zClr (σ 11 p) 6 := by rw [zCont_7 rfl]; simp [zu]
  have c6 : zbit (zCont σ p 7 11 p) 6 = false := by rw [e11, zbit_clr (by decide) (by decide)]; simp
  have c5 : zCont σ p 7 5 p = 0 := by rw [zCont_7 rfl]; exact zu_self
  show zWoke (zDel (zTake (zCont σ p 7, []) p 7) p) p
  generalize zCont σ p 7 = τ at c6 c5
  by_cases hh : zHeed τ p 7
  · rw [zTake_p (x := (τ, [])) (by decide) (by decide) hh]
    refine zWoke.del (Or.inr ⟨rfl, c5, ?_⟩)
    show zbit (zu τ 11 p (τ 11 p ||| zSh 7) 11 p) 6 = false
    rw [zu_self, zbit_or, c6, zbit_sh (by decide) (by decide)]
    rfl
  · rw [zTake_n (x := (τ, [])) (by decide) (by decide) hh]
    exact zWoke.del (Or.inr ⟨rfl, c5, c6⟩)
/-! STOP: the parent is told, and nobody ends -/
abbrev zSt3 (σ : zS) (p : Nat) : Prop := σ 0 p ≠ 0 ∧ σ 4 p = 0 ∧ σ 5 p ≠ 0
theorem zSt3.check {σ : zS} {p j : Nat} (h : zSt3 σ p) : zSt3 (zCheck σ j) p := by
  refine ⟨?_, by rw [zCheck_off (by decide)]; exact h.2.1, by rw [zCheck_off (by decide)]; exact h.2.2⟩
  rcases zCheck_cases σ j with e | e | ⟨k, hk, hr, h4, e⟩ | ⟨k, hk, hr, h4, e⟩ <;> rw [e]
  · exact h.1
  · exact h.1
  · have hpk : p ≠ k := fun z => h4 (by rw [← z]; exact h.2.1)
    rw [zu_k hpk]
    exact h.1
  · exact h.1
abbrev zCalm (x y : zS × List zEv) (p j : Nat) : Prop := y.2 = [] ∧ y.1 0 p = x.1 0 p ∧ y.1 4 p = x.1 4 p ∧ y.1 5 p = x.1 5 p ∧ y.1 9 = x.1 9 ∧ ∀ s, s < 9 → s ≠ 4 → zbit (zOpen y.1 j) s = false
theorem zCalm.dfold {x : zS × List zEv} {p j : Nat} (hj : p ≠ j) (hq : x.2 = []) (hb : ∀ s, s < 9 → s ≠ 4 → zbit (zOpen x.1 j) s = false) (ha : zbit (zOpen x.1 j) 4 = true → zAct x.1 j 4 = 2) : ∀ {n : Nat}, n ≤ 9 → zCalm x (zDfold j x n) p j
  | 0, _ => ⟨hq, rfl, rfl, rfl, rfl, hb⟩
  | n + 1, hn => by
    obtain ⟨b1, b2, b3, b4, b5, b6⟩ := zCalm.dfold hj hq hb ha (n := n) (by omega)
    have b7 : zbit (zOpen (zDfold j x n).1 j) n = true → n = 4 := fun z => by
      by_cases h4 : n = 4
      · exact h4
      · rw [b6 n (by omega) h4] at z; exact absurd z (by decide)
    have b8 : n = 4 → zbit (zOpen (zDfold j x n).1 j) 4 = true → zAct x.1 j 4 = 2 := fun h4 z => by
      -- nothing before signal 4 stood ready, so that nothing has changed
      have same : ∀ m, m ≤ 4 → zDfold j x m = x := by
        intro m
        induction m with
        | zero => intro _; rfl
        | succ m ih =>
          intro hm
          rw [zDfold_succ, ih (by omega)]
          exact zDstep_no (fun y => by
            have := (zbit_shne (by omega)).mp y.2.2
            rw [hb m (by omega) (by omega)] at this
            exact absurd this (by decide))
      rw [same n (by omega)] at z
      exact ha z
    rw [zDfold_succ]
    generalize zDfold j x n = y at b1 b2 b3 b4 b5 b6 b7 b8
    by_cases hc : y.1 4 j = 0 ∧ y.1 5 j = 0 ∧ zOpen y.1 j &&& zSh n ≠ 0
    · have hbit : zbit (zOpen y.1 j) n = true := (zbit_shne (by omega)).mp hc.2.2
      have h4 := b7 hbit
      have a2 : zAct y.1 j 4 = 2 := by
        have := b8 h4 (by rw [h4] at hbit; exact hbit)
        unfold zAct at this ⊢
        rw [b5]; exact this
      rw [zDstep_yes hc, h4]
      rw [zEff_c (x := (zu y.1 11 j (zClr (y.1 11 j) 4), y.2)) a2]
      refine ⟨b1, ?_, ?_, ?_, ?_, fun s hs s4 => ?_⟩
      · show zCatch (zu y.1 11 j (zClr (y.1 11 j) 4)) j 0 p = x.1 0 p
        rw [zCatch_off (by decide)]; exact b2
      · show zCatch (zu y.1 11 j (zClr (y.1 11 j) 4)) j 4 p = x.1 4 p
        rw [zCatch_off (by decide)]; exact b3
      · show zCatch (zu y.1 11 j (zClr (y.1 11 j) 4)) j 5 p = x.1 5 p
        rw [zCatch_off (by decide)]; exact b4
      · show zCatch (zu y.1 11 j (zClr (y.1 11 j) 4)) j 9 = x.1 9
        rw [zCatch_off (by decide)]; exact b5
      · have h9 := b6 s hs s4
        rw [zopen_bit (by omega)] at h9 ⊢
        show (zbit (zCatch (zu y.1 11 j (zClr (y.1 11 j) 4)) j 11 j) s && !zbit (zCatch (zu y.1 11 j (zClr (y.1 11 j) 4)) j 10 j) s) = false
        rw [zCatch_off (by decide), zCatch_off (by decide), zu_self, zbit_clr (by decide) (by omega)]
        show ((zbit (y.1 11 j) s && !decide (s = 4)) && !zbit (y.1 10 j) s) = false
        rw [Bool.and_assoc, Bool.and_comm (!decide (s = 4)), ← Bool.and_assoc, h9]
        rfl
    · rw [zDstep_no hc]
      exact ⟨b1, b2, b3, b4, b5, b6⟩
/-- CHLD to another process: the stopped one stays, and no events follow -/
theorem zSt3.told {σ : zS} {p j : Nat} (h : zSt3 σ p) (hI : zIv 0 σ []) (hj : p ≠ j) : (zComes (σ, []) j 4).2 = [] ∧ zSt3 (zComes (σ, []) j 4).1 p := by
  by_cases hn : σ 0 j = 0 ∨ σ 4 j ≠ 0 ∨ j = 1
  · rw [zComes_no (x := (σ, [])) hn]; exact ⟨rfl, h⟩
  rw [zComes_yes (x := (σ, [])) hn]
  have j0 : σ 0 j ≠ 0 := fun z => hn (Or.inl z)
  have j4 : σ 4 j = 0 := Classical.not_not.mp (fun z => hn (Or.inr (Or.inl z)))
  rw [show zCont (σ, ([] : List zEv)).1 j 4 = σ from zCont_o (by decide) (by decide)]
  show (zDel (zTake (σ, []) j 4) j).2 = [] ∧ zSt3 (zDel (zTake (σ, []) j 4) j).1 p
  have ht : zTake (σ, []) j 4 = (σ, []) ∨ (zTake (σ, []) j 4 = (zu σ 11 j (σ 11 j ||| zSh 4), []) ∧ zAct σ j 4 = 2) := by
    by_cases hh : zHeed σ j 4
    · exact Or.inr ⟨zTake_p (x := (σ, [])) (by decide) (by decide) hh, hh.elim id (fun z => absurd rfl z.2.1)⟩
    · exact Or.inl (zTake_n (x := (σ, [])) (by decide) (by decide) hh)
  have main : ∀ y : zS × List zEv, y.2 = [] → zSt3 y.1 p → (y.1 5 j = 0 → (∀ s, s < 9 → s ≠ 4 → zbit (zOpen y.1 j) s = false) ∧ (zbit (zOpen y.1 j) 4 = true → zAct y.1 j 4 = 2)) → (zDel y j).2 = [] ∧ zSt3 (zDel y j).1 p := fun y hq hy hb => by
    by_cases h5 : y.1 5 j = 0
    · have d := zCalm.dfold (x := y) hj hq (hb h5).1 (hb h5).2 (Nat.le_refl 9)
      rw [zDel_1, zDel_2]
      refine ⟨d.1, zSt3.check ⟨?_, ?_, ?_⟩⟩
      · rw [d.2.1]; exact hy.1
      · rw [d.2.2.1]; exact hy.2.1
      · rw [d.2.2.2.1]; exact hy.2.2
    · rw [zDel_stop h5]; exact ⟨hq, hy⟩
  have hop : σ 5 j = 0 → ∀ s, zbit (zOpen σ j) s = false := fun h5 s => by rw [hI.op j0 j4 h5, zbit_0]
  rcases ht with e | ⟨e, a2⟩ <;> rw [e]
  · refine main (σ, []) rfl h (fun h5 => ⟨fun s _ _ => hop h5 s, fun z => ?_⟩)
    rw [show zbit (zOpen (σ, ([] : List zEv)).1 j) 4 = false from hop h5 4] at z
    exact absurd z (by decide)
  · refine main (zu σ 11 j (σ 11 j ||| zSh 4), []) rfl h (fun h5 => ⟨fun s hs s4 => ?_, fun _ => a2⟩)
    have h9 := hop h5 s
    rw [zopen_bit (by omega)] at h9 ⊢
    show (zbit (zu σ 11 j (σ 11 j ||| zSh 4) 11 j) s && !zbit (σ 10 j) s) = false
    rw [zu_self, zbit_or, zbit_sh (by decide) (by omega)]
    simp only [s4, decide_false, Bool.or_false]
    exact h9
theorem zEvent_st (σ : zS) (q : List zEv) (s p : Nat) (hs : s < 9) : zEvent (σ, q) (s, p) = zComes (σ, q) p s := zEvent_s (e := (s, p)) hs
/-- a process that gets STOP stands, and stays so -/
theorem zGo_stop {n : Nat} {σ : zS} {p : Nat} (hn : 3 ≤ n) (hI : zIv 0 σ []) (h0 : σ 0 p ≠ 0) (h4 : σ 4 p = 0) (h1 : p ≠ 1) : zSt3 (zGo n σ [(5, p)]) p := by
  rw [zGo_cons (by omega), zEvent_st _ _ _ _ (by decide)]
  by_cases h5 : σ 5 p ≠ 0
  · obtain ⟨a, b, c, d, e⟩ := zComes_held (s := 5) h0 h4 h1 h5 (by decide) (by decide)
    rw [a, zGo_nil]
    exact ⟨b, c, d⟩
  · have hI5 : zIv 0 σ [(5, p)] := hI.queue
    have hp := hI.wf.in h0
    have hk5 : zEvK σ (5, p) := zEvK.sig (by decide) hp
    have g1 : zIv 0 (zComes (σ, []) p 5).1 (zComes (σ, []) p 5).2 := hI.comes (by decide)
    have gg : zGood (zComes (σ, []) p 5).1 (zComes (σ, []) p 5).2 := by
      have := zGood.event (σ := σ) (e := (5, p)) (q := []) ⟨hI.wf, fun e he => by rw [List.mem_singleton.mp he]; exact hk5⟩
      rw [zEvent_st _ _ _ _ (by decide)] at this
      exact this
    have hc : zComes (σ, []) p 5 = zStop (zCont σ p 5, []) p 5 := by
      rw [zComes_yes (x := (σ, [])) (fun z => z.elim h0 (fun z => z.elim (fun y => y h4) h1))]
      have c5 : zCont σ p 5 5 p = 0 := by
        rw [zCont_56 (by decide) (Or.inl rfl)]
        exact Classical.not_not.mp h5
      show zDel (zTake (zCont σ p 5, []) p 5) p = _
      rw [zTake_5s (x := (zCont σ p 5, [])) rfl c5]
      exact zDel_stop (by rw [zStop_5]; decide)
    have s3 : zSt3 (zComes (σ, []) p 5).1 p := by
      rw [hc]
      refine ⟨?_, ?_, by rw [zStop_5]; decide⟩
      · rw [zStop_off (by decide)]; show zCont σ p 5 0 p ≠ 0; rw [zCont_off (by decide)]; exact h0
      · rw [zStop_off (by decide)]; show zCont σ p 5 4 p = 0; rw [zCont_off (by decide)]; exact h4
    have q2 : (zComes (σ, []) p 5).2 = [(10, p)] := by rw [hc]; rfl
    rw [q2] at g1 gg
    rw [q2]
    generalize (zComes (σ, []) p 5).1 = τ at g1 gg s3
    rw [zGo_cons (by omega), zEvent_10 (e := (10, p)) rfl]
    show zSt3 (zGo (n - 1 - 1) (zStands (τ, []) p).1 (zStands (τ, []) p).2) p
    rw [zStands_yes (x := (τ, [])) ⟨s3.1, s3.2.2⟩]
    obtain ⟨j, j1, j2, j3, j4, j5, j6⟩ := g1.wf.par s3.1 h1
    have hpn : pn (τ 1 p) = j := by rw [j1]; exact nI_clamp (by omega)
    show zSt3 (zGo (n - 1 - 1) (zTell (τ, []) (pn (τ 1 p))).1 (zTell (τ, []) (pn (τ 1 p))).2) p
    rw [hpn]
    by_cases hj1 : j = 1
    · rw [zTell_1 (x := (τ, [])) hj1, zGo_nil]; exact s3
    · rw [zTell_n (x := (τ, [])) hj1]
      show zSt3 (zGo (n - 1 - 1) (zCheck τ j) [(4, j)]) p
      have g0 : zIv 0 τ [] := g1.more (fun k hk => by
        rcases List.mem_cons.mp hk with z | z
        · exact absurd (show (9 : Nat) = 10 from congrArg (fun e : zEv => e.1) z) (by decide)
        · exact z)
      have g2 : zIv 0 (zCheck τ j) [] := (g0.weak (e := j)).check ⟨fun z => j5 (by rw [z]; exact g0.wf.z), hj1⟩ j5 (fun k4 k5 => g0.op j5 k4 k5)
      rw [zGo_cons (by omega), zEvent_st _ _ _ _ (by decide)]
      have t := (s3.check (j := j)).told g2 (fun z => j4 z.symm)
      rw [t.1, zGo_nil]
      exact t.2
