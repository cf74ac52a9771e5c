/-! the system's own heap, as numbers -/
def zFr (t : Nat) (B G : zG) : Prop := ∀ (q k : Nat) (e : zE), B q = some (k, e) → k ≠ t → G q = some (k, e)
theorem zFr.rf {t : Nat} {B : zG} : zFr t B B := fun _ _ _ h _ => h
theorem zFr.tr {t : Nat} {A B G : zG} (h1 : zFr t A B) (h2 : zFr t B G) : zFr t A G := fun q k e h n => h2 q k e (h1 q k e h n) n
theorem zFr.upd {t a : Nat} {B G : zG} {e0 e : zE} (h : zFr t B G) (ha : G a = some (t, e0)) : zFr t B (zU G a (t, e)) := by
  intro q k e1 hb hk
  have h1 := h q k e1 hb hk
  by_cases hq : q = a
  · subst hq
    rw [ha] at h1
    cases h1
    exact absurd rfl hk
  · rw [zU_ne hq]; exact h1
theorem zFr.new {t a : Nat} {B G : zG} {e : zE} (h : zFr t B G) (ha : G a = none) : zFr t B (zU G a (t, e)) := by
  intro q k e1 hb hk
  have h1 := h q k e1 hb hk
  by_cases hq : q = a
  · subst hq
    rw [ha] at h1
    cases h1
  · rw [zU_ne hq]; exact h1
abbrev zbt (x : Int32) (s : Nat) : Prop := x >>> (nI s &&& 31) &&& 1 = 1
def zRpt (σ : zS) (k : Nat) : Int32 := if σ 4 k ≠ 0 then σ 14 k else if σ 5 k ≠ 0 ∧ σ 17 k ≠ 0 then 2 else -1
def zVal (σ : zS) (k : Nat) : Int32 := if σ 4 k ≠ 0 then σ 15 k else σ 16 k
/-- what the cell of process k holds -/
def zPF (σ : zS) (k : Nat) (f : Nat → Int32) : Prop :=
  f 0 = nI k ∧ f 2 = σ 2 k ∧ f 3 = σ 3 k ∧ f 4 = σ 13 k ∧ f 5 = σ 4 k ∧ f 6 = σ 5 k ∧ f 7 = σ 6 k ∧ (σ 6 k ≠ 0 → f 8 = σ 7 k ∧ f 9 = σ 8 k) ∧ f 10 = zRpt σ k ∧ (f 10 ≠ -1 → f 11 = zVal σ k) ∧
  (∀ s, s < 9 → (zbt (f 13) s ↔ σ 9 (9 * k + s) = 2) ∧ (zbt (f 12) s ↔ σ 9 (9 * k + s) = 1)) ∧ f 13 &&& 511 = f 13 ∧ f 14 = σ 10 k ∧ f 15 = σ 11 k ∧ f 16 = σ 12 k ∧ f 17 = σ 18 k ∧ f 18 = σ 19 k ∧ f 19 = σ 20 k
def zPar (T : Nat → Option Nat) (σ : zS) (k : Nat) : Value := if k = 1 then .null else va_rf (T (pn (σ 1 k)))
def zClsB (B : zG) (x : Nat) (σ : zS) (q : List zEv) (h cap : Nat) (G : zG) (tb ev ka pa : Nat) (T : Nat → Option Nat) (F : Nat → Nat → Int32) (fk fp : Nat → Int32) (ck cp : Int32) : Prop :=
  zFr 1 B G ∧ G x = some (1, .inr (2, [.ref tb, .ref ev, .int (σ 21 0), .int (σ 22 0)])) ∧ G tb = some (1, .inl (.object "Signalpost$Proc", 41, .inr (.inr (.inr (.inr T))))) ∧
  (G ev = some (1, .inr (0, zQo ka pa (nI h) (nI (h + q.length)) ck cp)) ∧ G ka = some (1, .inl (.int, cap, .inl fk)) ∧ G pa = some (1, .inl (.int, cap, .inl fp)) ∧ ka ≠ pa ∧ h + q.length ≤ cap ∧ 64 ≤ cap ∧ cap ≤ 16384 ∧
    ∀ (i : Nat) (e : zEv), q[i]? = some e → fk (h + i) = nI e.1 ∧ fp (h + i) = nI e.2) ∧
  (∀ k, k < 41 → σ 0 k = 0 → T k = none) ∧ ∀ k, k < 41 → σ 0 k ≠ 0 → ∃ a, T k = some a ∧ G a = some (1, .inr (1, zPr (zPar T σ k) (F k))) ∧ zPF σ k (F k)
def zCls (B : zG) (x : Nat) (σ : zS) (q : List zEv) (h cap : Nat) (G : zG) : Prop :=
  ∃ (tb ev ka pa : Nat) (T : Nat → Option Nat) (F : Nat → Nat → Int32) (fk fp : Nat → Int32) (ck cp : Int32), zClsB B x σ q h cap G tb ev ka pa T F fk fp ck cp
theorem zPr_0 {p1 p2 : Value} {f g : Nat → Int32} (h : zPr p1 f = zPr p2 g) : f 0 = g 0 := by
  have h1 := List.cons.inj h
  have h2 := h1.1
  simpa using h2
theorem zCls_proc {B : zG} {x : Nat} {σ σ' : zS} {q : List zEv} {h cap : Nat} {G : zG} {tb ev ka pa : Nat} {T : Nat → Option Nat} {F : Nat → Nat → Int32} {fk fp : Nat → Int32} {ck cp : Int32} (hC : zClsB B x σ q h cap G tb ev ka pa T F fk fp ck cp) {k a : Nat} {par' : Value} {f' : Nat → Int32} (hk : k < 41) (hth : σ 0 k ≠ 0) (ha : T k = some a)
    (h0 : ∀ j, σ' 0 j = σ 0 j) (h1 : ∀ j, j ≠ k → σ 0 j ≠ 0 → σ' 1 j = σ 1 j) (hpar : par' = zPar T σ' k) (hg : σ' 21 0 = σ 21 0 ∧ σ' 22 0 = σ 22 0) (hne : ∀ j f, j < 41 → j ≠ k → zPF σ j f → zPF σ' j f) (hf : zPF σ' k f') :
    zClsB B x σ' q h cap (zU G a (1, .inr (1, zPr par' f'))) tb ev ka pa T (fun j => if j = k then f' else F j) fk fp ck cp := by
  obtain ⟨c1, c2, c3, ⟨c4, c5, c6, c7, c8, c9, c10, c11⟩, c12, c13⟩ := hC
  obtain ⟨a', e1, e2, e3⟩ := c13 k hk hth
  rw [ha] at e1
  cases e1
  have nx : x ≠ a := fun z => by rw [z, e2] at c2; cases c2
  have ntb : tb ≠ a := fun z => by rw [z, e2] at c3; cases c3
  have nev : ev ≠ a := fun z => by rw [z, e2] at c4; cases c4
  have nka : ka ≠ a := fun z => by rw [z, e2] at c5; cases c5
  have npa : pa ≠ a := fun z => by rw [z, e2] at c6; cases c6
  refine ⟨c1.upd e2, by rw [zU_ne nx, hg.1, hg.2]; exact c2, by rw [zU_ne ntb]; exact c3, ⟨by rw [zU_ne nev]; exact c4, by rw [zU_ne nka]; exact c5, by rw [zU_ne npa]; exact c6, c7, c8, c9, c10, c11⟩, fun j hj hz => c12 j hj (by rw [← h0]; exact hz), fun j hj hz => ?_⟩
  by_cases hjk : j = k
  · subst hjk
    exact ⟨a, ha, by rw [zU_self, hpar]; simp, by simpa using hf⟩
  · rw [h0] at hz
    obtain ⟨b, g1, g2, g3⟩ := c13 j hj hz
    have hba : b ≠ a := by
      intro z
      rw [z, e2] at g2
      have g4 := (Prod.mk.inj (Option.some.inj g2)).2
      have g5 : zPr (zPar T σ k) (F k) = zPr (zPar T σ j) (F j) := (Prod.mk.inj (Sum.inr.inj g4)).2
      have g6 := zPr_0 g5
      rw [e3.1, g3.1] at g6
      exact hjk ((nI_eq (by omega) (by omega)).mp g6).symm
    refine ⟨b, g1, ?_, by simpa [hjk] using hne j _ hj hjk g3⟩
    have : zPar T σ' j = zPar T σ j := by simp only [zPar, h1 j hjk hz]
    rw [zU_ne hba, g2, this]
    simp [hjk]
/-- the two numbers of the system's own cell -/
theorem zCls_top {B : zG} {x : Nat} {σ σ' : zS} {q : List zEv} {h cap : Nat} {G : zG} {tb ev ka pa : Nat} {T : Nat → Option Nat} {F : Nat → Nat → Int32} {fk fp : Nat → Int32} {ck cp : Int32} (hC : zClsB B x σ q h cap G tb ev ka pa T F fk fp ck cp)
    (h0 : ∀ f j, f ≠ 21 → f ≠ 22 → σ' f j = σ f j) :
    zClsB B x σ' q h cap (zU G x (1, .inr (2, [.ref tb, .ref ev, .int (σ' 21 0), .int (σ' 22 0)]))) tb ev ka pa T F fk fp ck cp := by
  obtain ⟨c1, c2, c3, ⟨c4, c5, c6, c7, c8, c9, c10, c11⟩, c12, c13⟩ := hC
  have ntb : tb ≠ x := fun z => by rw [z, c2] at c3; cases c3
  have nev : ev ≠ x := fun z => by rw [z, c2] at c4; cases c4
  have nka : ka ≠ x := fun z => by rw [z, c2] at c5; cases c5
  have npa : pa ≠ x := fun z => by rw [z, c2] at c6; cases c6
  have hz : ∀ f j, (f = 0 ∨ f = 1 ∨ f = 2 ∨ f = 3 ∨ f = 4 ∨ f = 5 ∨ f = 6 ∨ f = 7 ∨ f = 8 ∨ f = 9 ∨ f = 10 ∨ f = 11 ∨ f = 12 ∨ f = 13 ∨ f = 14 ∨ f = 15 ∨ f = 16 ∨ f = 17 ∨ f = 18 ∨ f = 19 ∨ f = 20) → σ' f j = σ f j := fun f j hf => h0 f j (by omega) (by omega)
  refine ⟨c1.upd c2, zU_self, by rw [zU_ne ntb]; exact c3, ⟨by rw [zU_ne nev]; exact c4, by rw [zU_ne nka]; exact c5, by rw [zU_ne npa]; exact c6, c7, c8, c9, c10, c11⟩, fun j hj hz' => c12 j hj (by rw [← h0 0 j (by decide) (by decide)]; exact hz'), fun j hj hz' => ?_⟩
  rw [h0 0 j (by decide) (by decide)] at hz'
  obtain ⟨b, g1, g2, g3⟩ := c13 j hj hz'
  have hbx : b ≠ x := fun z => by rw [z, c2] at g2; cases g2
  refine ⟨b, g1, ?_, ?_⟩
  · rw [zU_ne hbx, g2]
    simp only [zPar, h0 1 j (by decide) (by decide)]
  · unfold zPF zRpt zVal at g3 ⊢
    simp only [h0 _ _ (show (2 : Nat) ≠ 21 by decide) (show (2 : Nat) ≠ 22 by decide), h0 _ _ (show (3 : Nat) ≠ 21 by decide) (show (3 : Nat) ≠ 22 by decide), h0 _ _ (show (4 : Nat) ≠ 21 by decide) (show (4 : Nat) ≠ 22 by decide), h0 _ _ (show (5 : Nat) ≠ 21 by decide) (show (5 : Nat) ≠ 22 by decide), h0 _ _ (show (6 : Nat) ≠ 21 by decide) (show (6 : Nat) ≠ 22 by decide), h0 _ _ (show (7 : Nat) ≠ 21 by decide) (show (7 : Nat) ≠ 22 by decide), h0 _ _ (show (8 : Nat) ≠ 21 by decide) (show (8 : Nat) ≠ 22 by decide), h0 _ _ (show (9 : Nat) ≠ 21 by decide) (show (9 : Nat) ≠ 22 by decide), h0 _ _ (show (10 : Nat) ≠ 21 by decide) (show (10 : Nat) ≠ 22 by decide), h0 _ _ (show (11 : Nat) ≠ 21 by decide) (show (11 : Nat) ≠ 22 by decide), h0 _ _ (show (12 : Nat) ≠ 21 by decide) (show (12 : Nat) ≠ 22 by decide), h0 _ _ (show (13 : Nat) ≠ 21 by decide) (show (13 : Nat) ≠ 22 by decide), h0 _ _ (show (14 : Nat) ≠ 21 by decide) (show (14 : Nat) ≠ 22 by decide), h0 _ _ (show (15 : Nat) ≠ 21 by decide) (show (15 : Nat) ≠ 22 by decide), h0 _ _ (show (16 : Nat) ≠ 21 by decide) (show (16 : Nat) ≠ 22 by decide), h0 _ _ (show (17 : Nat) ≠ 21 by decide) (show (17 : Nat) ≠ 22 by decide), h0 _ _ (show (18 : Nat) ≠ 21 by decide) (show (18 : Nat) ≠ 22 by decide), h0 _ _ (show (19 : Nat) ≠ 21 by decide) (show (19 : Nat) ≠ 22 by decide), h0 _ _ (show (20 : Nat) ≠ 21 by decide) (show (20 : Nat) ≠ 22 by decide)]
    exact g3
/-- the queue's cells alone have changed -/
theorem zCls_queue {B : zG} {x : Nat} {σ : zS} {q q' : List zEv} {h h' cap cap' : Nat} {G G' : zG} {tb ev ka pa ka' pa' : Nat} {T : Nat → Option Nat} {F : Nat → Nat → Int32} {fk fp fk' fp' : Nat → Int32} {ck cp ck' cp' : Int32} (hC : zClsB B x σ q h cap G tb ev ka pa T F fk fp ck cp)
    (hfr : ∀ (z : Nat) (y : Nat × zE), G z = some y → z ≠ ev → z ≠ ka → z ≠ pa → G' z = some y)
    (d4 : G' ev = some (1, .inr (0, zQo ka' pa' (nI h') (nI (h' + q'.length)) ck' cp'))) (d5 : G' ka' = some (1, .inl (.int, cap', .inl fk'))) (d6 : G' pa' = some (1, .inl (.int, cap', .inl fp'))) (d7 : ka' ≠ pa') (d8 : h' + q'.length ≤ cap') (d9 : 64 ≤ cap') (d10 : cap' ≤ 16384) (d11 : ∀ (i : Nat) (e : zEv), q'[i]? = some e → fk' (h' + i) = nI e.1 ∧ fp' (h' + i) = nI e.2) :
    zClsB B x σ q' h' cap' G' tb ev ka' pa' T F fk' fp' ck' cp' := by
  obtain ⟨c1, c2, c3, ⟨c4, c5, c6, c7, c8, c9, c10, c11⟩, c12, c13⟩ := hC
  have n1 : x ≠ ev := fun z => by rw [z, c4] at c2; cases c2
  have n2 : x ≠ ka := fun z => by rw [z, c5] at c2; cases c2
  have n3 : x ≠ pa := fun z => by rw [z, c6] at c2; cases c2
  have m1 : tb ≠ ev := fun z => by rw [z, c4] at c3; cases c3
  have m2 : tb ≠ ka := fun z => by rw [z, c5] at c3; cases c3
  have m3 : tb ≠ pa := fun z => by rw [z, c6] at c3; cases c3
  refine ⟨fun z k e hb hk => ?_, hfr x _ c2 n1 n2 n3, hfr tb _ c3 m1 m2 m3, ⟨d4, d5, d6, d7, d8, d9, d10, d11⟩, c12, fun j hj hz => ?_⟩
  · have h1 := c1 z k e hb hk
    refine hfr z _ h1 (fun y => ?_) (fun y => ?_) (fun y => ?_)
    · rw [y, c4] at h1; cases h1; exact hk rfl
    · rw [y, c5] at h1; cases h1; exact hk rfl
    · rw [y, c6] at h1; cases h1; exact hk rfl
  · obtain ⟨b, g1, g2, g3⟩ := c13 j hj hz
    exact ⟨b, g1, hfr b _ g2 (fun y => by rw [y, c4] at g2; cases g2) (fun y => by rw [y, c5] at g2; cases g2) (fun y => by rw [y, c6] at g2; cases g2), g3⟩
/-- a process is taken away -/
theorem zCls_gone {B : zG} {x : Nat} {σ : zS} {q : List zEv} {h cap : Nat} {G : zG} {tb ev ka pa : Nat} {T : Nat → Option Nat} {F : Nat → Nat → Int32} {fk fp : Nat → Int32} {ck cp : Int32} (hC : zClsB B x σ q h cap G tb ev ka pa T F fk fp ck cp) {k : Nat} (hch : ∀ j, j < 41 → j ≠ k → σ 0 j ≠ 0 → j ≠ 1 → pn (σ 1 j) ≠ k) :
    zClsB B x (zu σ 0 k 0) q h cap (zU G tb (1, .inl (.object "Signalpost$Proc", 41, .inr (.inr (.inr (.inr (va_up T k none))))))) tb ev ka pa (va_up T k none) F fk fp ck cp := by
  obtain ⟨c1, c2, c3, ⟨c4, c5, c6, c7, c8, c9, c10, c11⟩, c12, c13⟩ := hC
  have nx : x ≠ tb := fun z => by rw [z, c3] at c2; cases c2
  have nev : ev ≠ tb := fun z => by rw [z, c3] at c4; cases c4
  have nka : ka ≠ tb := fun z => by rw [z, c3] at c5; cases c5
  have npa : pa ≠ tb := fun z => by rw [z, c3] at c6; cases c6
  refine ⟨c1.upd c3, by rw [zU_ne nx]; exact c2, zU_self, ⟨by rw [zU_ne nev]; exact c4, by rw [zU_ne nka]; exact c5, by rw [zU_ne npa]; exact c6, c7, c8, c9, c10, c11⟩, fun j hj hz => ?_, fun j hj hz => ?_⟩
  · by_cases hjk : j = k
    · simp [va_up, hjk]
    · simp only [va_up, hjk, if_false]
      exact c12 j hj (by simpa [zu, hjk] using hz)
  · by_cases hjk : j = k
    · exact absurd (by simp [zu, hjk]) hz
    · have hz' : σ 0 j ≠ 0 := by simpa [zu, hjk] using hz
      obtain ⟨b, g1, g2, g3⟩ := c13 j hj hz'
      have hb : b ≠ tb := fun z => by rw [z, c3] at g2; cases g2
      refine ⟨b, by simp only [va_up, hjk, if_false]; exact g1, ?_, g3⟩
      rw [zU_ne hb, g2]
      congr 5
      simp only [zPar]
      by_cases hj1 : j = 1
      · rw [if_pos hj1, if_pos hj1]
      · rw [if_neg hj1, if_neg hj1]
        have : (zu σ 0 k 0) 1 j = σ 1 j := by simp [zu]
        rw [this]
        simp only [va_up, if_neg (hch j hj hjk hz' hj1)]
