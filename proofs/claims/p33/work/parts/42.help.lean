/-! rows for calls that append, by the queue behind them -/
theorem zV.wid0 {p : Program} {l : Launch} {e : Env} {R : Room} {s : State} {m : MethodId} {args : Array Value} {below : List Frame} {meth : Method} {c : Code} {D : va_G} {A : Nat → Prop} {cells slots : Nat} {Q : State → Prop} {G : zG} {pc : Nat} {L : List (Option Value)} {st : List Value} {fr lo : Nat} (kk : zV p l e R s m args below meth c D A cells slots Q G pc L st) : zV p l e R s m args below meth c D A (cells + ({ frames := fr, cells := 0, slots := 0, locals := lo } : Room).cells) (slots + ({ frames := fr, cells := 0, slots := 0, locals := lo } : Room).slots) Q G pc L st := kk
theorem zRm_ok {m a b T f l f' l' : Nat} (h1 : a ≤ b) (h2 : b ≤ T) : zW m a + (zRmA f l (max m a) b).cells ≤ (zRmA f' l' m T).cells ∧ 4 * zW m a + (zRmA f l (max m a) b).slots ≤ (zRmA f' l' m T).slots := by
  have e1 : (zRmA f l (max m a) b).cells = zK (max (max m a) b) - zK (max m a) := rfl
  have e2 : (zRmA f l (max m a) b).slots = 4 * (zK (max (max m a) b) - zK (max m a)) := rfl
  have e3 : (zRmA f' l' m T).cells = zW m T := rfl
  have e4 : (zRmA f' l' m T).slots = 4 * zW m T := rfl
  have h3 := zW_step (m := m) h1
  have h4 := zW_mono (m := m) h2
  rw [e1, e2, e3, e4]
  omega
theorem zRm_eq {m a b f l : Nat} (h1 : a ≤ b) : zW m a + (zRmA f l (max m a) b).cells ≤ zW m b ∧ 4 * zW m a + (zRmA f l (max m a) b).slots ≤ 4 * zW m b := by
  have e1 : (zRmA f l (max m a) b).cells = zK (max (max m a) b) - zK (max m a) := rfl
  have e2 : (zRmA f l (max m a) b).slots = 4 * (zK (max (max m a) b) - zK (max m a)) := rfl
  have h3 := zW_step (m := m) h1
  rw [e1, e2]
  omega
/-- a call that makes nothing -/
theorem zRm_0 {m a T f l : Nat} (h2 : a ≤ T) : zW m a + 0 ≤ (zRmA f l m T).cells ∧ 4 * zW m a + 0 ≤ (zRmA f l m T).slots := by
  have e3 : (zRmA f l m T).cells = zW m T := rfl
  have e4 : (zRmA f l m T).slots = 4 * zW m T := rfl
  have h4 := zW_mono (m := m) h2
  rw [e3, e4]
  omega
theorem zRm_end {m a T f l : Nat} (h2 : a ≤ T) : zW m a ≤ (zRmA f l m T).cells ∧ 4 * zW m a ≤ (zRmA f l m T).slots := by
  have h := zRm_0 (m := m) (f := f) (l := l) h2
  omega
theorem c_clApp2 (l : Launch) (D : va_G) {B G : zG} {x tb ev : Nat} {A : Nat → Nat} {σ : zS} {q q2 : List zEv} {h m : Nat} {e9 : zEv} {a b : Int32} (hC : zCl B x tb ev A σ q h m G) (hq : q2 = q ++ [e9]) (ht : h + q2.length ≤ 16384) (ha : a = nI e9.1) (hb : b = nI e9.2) : zMet D l yX0_append wsX0_append (zRmA 3 82 m (h + q2.length)) [.ref ev, .int a, .int b] G (fun v G9 => v = none ∧ zCl B x tb ev A σ q2 h (max m (h + q2.length)) G9) := by
  subst hq
  have e : h + (q ++ [e9]).length = h + q.length + 1 := by simp; omega
  rw [e] at ht ⊢
  exact c_clApp l D hC ht ha hb
theorem c_clSends2 (l : Launch) (D : va_G) {B G : zG} {x tb ev : Nat} {A : Nat → Nat} {σ : zS} {q q2 : List zEv} {h m0 : Nat} {g9 : Int32} {s9 : Nat} {s8 : Int32} (hC : zCl B x tb ev A σ q h m0 G) (hq : q2 = q ++ zSends σ g9 s9 41) (ht : h + q2.length ≤ 16384) (hs : s8 = nI s9) : zMet D l yX2_appendForMembers wsX2_appendForMembers (zRmA 4 104 m0 (h + q2.length)) [.ref x, .int g9, .int s8] G (fun v G9 => v = some (.int (nI (zMemL σ g9 41).length)) ∧ zCl B x tb ev A σ q2 h (max m0 (h + q2.length)) G9) := by
  subst hq
  subst hs
  exact c_X2_appendForMembers l D hC ht
theorem c_clStop2 (l : Launch) (D : va_G) {B G : zG} {x tb ev : Nat} {A : Nat → Nat} {σ : zS} {q q2 : List zEv} {h m0 : Nat} {k s9 : Nat} {s8 : Int32} (hC : zCl B x tb ev A σ q h m0 G) (hk : k < 41) (h0 : σ 0 k ≠ 0) (h4 : σ 4 k = 0) (h5 : σ 5 k = 0) (hq : q2 = q ++ [(10, k)]) (ht : h + q2.length ≤ 16384) (hs : s8 = nI s9) : zMet D l yX2_stop wsX2_stop (zRmA 4 104 m0 (h + q2.length)) [.ref x, .ref (A k), .int s8] G (fun v G9 => v = none ∧ zCl B x tb ev A (zStop (σ, q) k s9).1 q2 h (max m0 (h + q2.length)) G9) := by
  subst hq
  subst hs
  have e : h + (q ++ [(10, k)]).length = h + q.length + 1 := by simp; omega
  rw [e] at ht ⊢
  exact c_X2_stop l D hC hk h0 h4 h5 ht
theorem c_clAttG (l : Launch) (D : va_G) {B G : zG} {x tb ev : Nat} {A : Nat → Nat} {σ : zS} {q : List zEv} {h m0 : Nat} (hC : zCl B x tb ev A σ q h m0 G) (hH : zHas σ) : zMet D l yX2_attachedGroups wsX2_attachedGroups ({ frames := 1, cells := 0, slots := 0, locals := 20 } : Room) [.ref x] G (fun v G9 => ∃ w, v = some (.long w) ∧ zAtS σ w 41 ∧ G9 = G) := by
  obtain ⟨hm, ka, pa, F, fk, fp, ck, cp, hB⟩ := hC
  exact c_X2_attachedGroups l D hB hH
theorem c_clFreeT (l : Launch) (D : va_G) {B G : zG} {x tb ev : Nat} {A : Nat → Nat} {σ : zS} {q : List zEv} {h m0 : Nat} (hC : zCl B x tb ev A σ q h m0 G) : zMet D l yX2_freeTerminal wsX2_freeTerminal ({ frames := 0, cells := 0, slots := 0, locals := 0 } : Room) [.ref x] G (fun v G9 => v = none ∧ zCl B x tb ev A (zFreeT σ) q h m0 G9) := by
  obtain ⟨hm, ka, pa, F, fk, fp, ck, cp, hB⟩ := hC
  refine (c_X2_freeTerminal l D hB).imp ?_
  rintro v G9 ⟨rfl, h9⟩
  exact ⟨rfl, hm, ka, pa, F, fk, fp, ck, cp, h9⟩
theorem c_clStpd (l : Launch) (D : va_G) {B G : zG} {x tb ev : Nat} {A : Nat → Nat} {σ : zS} {q : List zEv} {h m0 : Nat} {g9 : Int32} (hC : zCl B x tb ev A σ q h m0 G) : zMet D l yX2_hasStoppedMember wsX2_hasStoppedMember ({ frames := 1, cells := 0, slots := 0, locals := 21 } : Room) [.ref x, .int g9] G (fun v G9 => v = some (.int (zb (zStopd σ g9 41))) ∧ G9 = G) := by
  obtain ⟨hm, ka, pa, F, fk, fp, ck, cp, hB⟩ := hC
  exact c_X2_hasStoppedMember l D hB
theorem zPF_die {σ : zS} {k : Nat} {f : Nat → Int32} {a b : Int32} (hf : zPF σ k f) : zPF (zDie σ k a b) k (zZomF f a b) := by
  obtain ⟨a0, a2, a3, a4, a5, a6, a7, a8, a10, a11, a12, a13, a14, a15, a16, a17, a18, a19⟩ := hf
  have d4 : zDie σ k a b 4 k = 1 := by rw [zDie_4, if_pos rfl]
  have d5 : zDie σ k a b 5 k = 0 := by rw [zDie_5, if_pos rfl]
  have d6 : zDie σ k a b 6 k = 0 := by rw [zDie_6, if_pos rfl]
  have d11 : zDie σ k a b 11 k = 0 := by rw [zDie_11, if_pos rfl]
  have d14 : zDie σ k a b 14 k = a := by rw [zDie_14, if_pos rfl]
  have d15 : zDie σ k a b 15 k = b := by simp [zDie, zu]
  refine ⟨a0, a2, a3, a4, ?_, ?_, ?_, fun z => absurd d6 z, ?_, fun _ => ?_, a12, a13, a14, ?_, a16, a17, a18, a19⟩
  · rw [d4]; rfl
  · rw [d5]; rfl
  · rw [d6]; rfl
  · unfold zRpt
    rw [d4, d14, if_pos (by decide)]
    rfl
  · unfold zVal
    rw [d4, d15, if_pos (by decide)]
    rfl
  · rw [d11]; rfl
theorem zOwn_die {σ : zS} {k : Nat} {a b : Int32} : zOwn σ (zDie σ k a b) k := ((((((zOwn.rf.put (g := 4) (v := 1) (by decide) (by decide) (by decide)).put (g := 14) (v := a) (by decide) (by decide) (by decide)).put (g := 15) (v := b) (by decide) (by decide) (by decide)).put (g := 11) (v := 0) (by decide) (by decide) (by decide)).put (g := 6) (v := 0) (by decide) (by decide) (by decide)).put (g := 5) (v := 0) (by decide) (by decide) (by decide))
theorem zTq2_mono {σ : zS} {p i : Nat} : ∀ d : Nat, (zTq2 σ p i).length ≤ (zTq2 σ p (i + d)).length
  | 0 => Nat.le_refl _
  | d + 1 => by
    refine Nat.le_trans (zTq2_mono d) ?_
    rw [← Nat.add_assoc]
    by_cases hz : zWasZ σ p (i + d)
    · rw [zTq2_yes hz, List.length_append]; omega
    · rw [zTq2_no hz]; exact Nat.le_refl _
theorem zTq3_mono {σ τ : zS} {i : Nat} : ∀ d : Nat, (zTq3 σ τ i).length ≤ (zTq3 σ τ (i + d)).length
  | 0 => Nat.le_refl _
  | d + 1 => by
    refine Nat.le_trans (zTq3_mono d) ?_
    rw [← Nat.add_assoc]
    by_cases hz : zNewO σ τ (i + d)
    · rw [zTq3_yes hz, List.length_append]; omega
    · rw [zTq3_no hz]; exact Nat.le_refl _
theorem zWasZ_die {σ : zS} {p k : Nat} {a b : Int32} (hself : σ 1 p ≠ nI p) : zWasZ (zDie σ p a b) p k ↔ zWasZ σ p k := by
  unfold zWasZ
  rw [zDie_off (f := 0) (by decide), zDie_off (f := 1) (by decide), zDie_4]
  by_cases hk : k = p
  · rw [hk]
    exact ⟨fun z => absurd z.2.1 hself, fun z => absurd z.2.1 hself⟩
  · rw [if_neg hk]
theorem zHas.t2 {σ : zS} (h : zWf σ) {p : Nat} (h0 : σ 0 p ≠ 0) (h1 : p ≠ 1) {a b : Int32} (ha : a = 0 ∨ a = 1) : zHas (zT2 σ p a b) := (h.t2 h0 h1 ha).has
theorem zNewO_0 {σ τ : zS} (h : τ 0 0 = 0 ∧ ∀ k, k < 41 → τ 0 k ≠ 0 → ∃ g, τ 2 k = nI g ∧ 1 ≤ g ∧ g < 41) : ¬ zNewO σ τ 0 := fun z => z.2.2 (fun k hk u => by
  obtain ⟨g, g1, g2, g3⟩ := h.2 k hk u.1.1
  have h9 := u.1.2.2
  rw [g1] at h9
  have := (nI_eq (by omega) (by decide)).mp h9
  omega)
theorem zlbit_new {σ τ : zS} {w1 w2 : Int64} {g : Nat} (h1 : zAtS σ w1 41) (h2 : zAtS τ w2 41) (hg : g < 64) : zlbit (w1 &&& (w2 ^^^ (-1))) g = true ↔ ¬ zOrph σ (nI g) ∧ zOrph τ (nI g) := by
  rw [zlbit_and, zlbit_not _ hg, Bool.and_eq_true, zAtS_o h1 hg]
  have h9 := zAtS_o h2 hg
  constructor
  · rintro ⟨a, b⟩
    refine ⟨a, Classical.not_not.mp (fun z => ?_)⟩
    rw [h9.mpr z] at b
    cases b
  · rintro ⟨a, b⟩
    refine ⟨a, ?_⟩
    cases hb : zlbit w2 g with
    | false => rfl
    | true => exact absurd b (h9.mp hb)
theorem z40gt {i : Nat} (h : i < 41) : ¬ (40 : Int32) < nI i := z40 (by omega)
