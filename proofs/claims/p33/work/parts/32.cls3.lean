/-! the class's heap by addresses that stay; the queue's capacity by the highest tail so far -/
def zK (m : Nat) : Nat := if m ≤ 64 then 64 else if m ≤ 128 then 128 else if m ≤ 256 then 256 else if m ≤ 512 then 512 else if m ≤ 1024 then 1024 else if m ≤ 2048 then 2048 else if m ≤ 4096 then 4096 else if m ≤ 8192 then 8192 else 16384
theorem zK_cases (m : Nat) : (m ≤ 64 ∧ zK m = 64) ∨ (64 < m ∧ m ≤ 128 ∧ zK m = 128) ∨ (128 < m ∧ m ≤ 256 ∧ zK m = 256) ∨ (256 < m ∧ m ≤ 512 ∧ zK m = 512) ∨ (512 < m ∧ m ≤ 1024 ∧ zK m = 1024) ∨ (1024 < m ∧ m ≤ 2048 ∧ zK m = 2048) ∨ (2048 < m ∧ m ≤ 4096 ∧ zK m = 4096) ∨ (4096 < m ∧ m ≤ 8192 ∧ zK m = 8192) ∨ (8192 < m ∧ zK m = 16384) := by
  unfold zK
  by_cases h1 : m ≤ 64
  · simp [h1]
  by_cases h2 : m ≤ 128
  · simp [h1, h2]; omega
  by_cases h3 : m ≤ 256
  · simp [h1, h2, h3]; omega
  by_cases h4 : m ≤ 512
  · simp [h1, h2, h3, h4]; omega
  by_cases h5 : m ≤ 1024
  · simp [h1, h2, h3, h4, h5]; omega
  by_cases h6 : m ≤ 2048
  · simp [h1, h2, h3, h4, h5, h6]; omega
  by_cases h7 : m ≤ 4096
  · simp [h1, h2, h3, h4, h5, h6, h7]; omega
  by_cases h8 : m ≤ 8192
  · simp [h1, h2, h3, h4, h5, h6, h7, h8]; omega
  · simp [h1, h2, h3, h4, h5, h6, h7, h8]; omega
theorem zK_in (m : Nat) : 64 ≤ zK m ∧ zK m ≤ 16384 := by have := zK_cases m; omega
theorem zK_mono {m n : Nat} (h : m ≤ n) : zK m ≤ zK n := by have := zK_cases m; have := zK_cases n; omega
theorem zK_same {m t : Nat} (h : t < zK m) : zK (max m (t + 1)) = zK m := by
  have h1 := zK_cases m
  have h2 := zK_cases (max m (t + 1))
  omega
theorem zK_grow {m t : Nat} (h : t = zK m) (hm : t + 1 ≤ 16384) (hm2 : m ≤ 16384) : zK (max m (t + 1)) = 2 * zK m := by
  have h1 := zK_cases m
  have h2 := zK_cases (max m (t + 1))
  omega
def zTA (σ : zS) (A : Nat → Nat) : Nat → Option Nat := fun k => if σ 0 k = 0 then none else some (A k)
theorem zTA_y {σ : zS} {A : Nat → Nat} {k : Nat} (h : σ 0 k ≠ 0) : zTA σ A k = some (A k) := if_neg h
theorem zTA_n {σ : zS} {A : Nat → Nat} {k : Nat} (h : σ 0 k = 0) : zTA σ A k = none := if_pos h
theorem zTA_at {σ : zS} {A : Nat → Nat} {k a : Nat} (h : zTA σ A k = some a) : a = A k ∧ σ 0 k ≠ 0 := by
  unfold zTA at h
  split at h
  · cases h
  · exact ⟨(Option.some.inj h).symm, by assumption⟩
def zCl (B : zG) (x tb ev : Nat) (A : Nat → Nat) (σ : zS) (q : List zEv) (h m : Nat) (G : zG) : Prop :=
  m ≤ 16384 ∧ ∃ (ka pa : Nat) (F : Nat → Nat → Int32) (fk fp : Nat → Int32) (ck cp : Int32), zClsB B x σ q h (zK m) G tb ev ka pa (zTA σ A) F fk fp ck cp
abbrev zRmA (f l m t : Nat) : Room := { frames := f, cells := zK (max m t) - zK m, slots := 4 * (zK (max m t) - zK m), locals := l }
theorem c_clApp (l : Launch) (D : va_G) {B G : zG} {x tb ev : Nat} {A : Nat → Nat} {σ : zS} {q : List zEv} {h m : Nat} {e9 : zEv} {a b : Int32} (hC : zCl B x tb ev A σ q h m G) (ht : h + q.length + 1 ≤ 16384) (ha : a = nI e9.1) (hb : b = nI e9.2) : zMet D l yX0_append wsX0_append (zRmA 3 82 m (h + q.length + 1)) [.ref ev, .int a, .int b] G (fun v G9 => v = none ∧ zCl B x tb ev A σ (q ++ [e9]) h (max m (h + q.length + 1)) G9) := by
  subst ha; subst hb
  obtain ⟨hm, ka, pa, F, fk, fp, ck, cp, hB⟩ := hC
  have hq := hB.2.2.2.1
  have hK := zK_in m
  have hlen : (q ++ [e9]).length = q.length + 1 := by simp
  have hev : ∀ (gk gp : Nat → Int32), gk (h + q.length) = nI e9.1 → gp (h + q.length) = nI e9.2 → (∀ i, i < h + q.length → gk i = fk i ∧ gp i = fp i) → ∀ (i : Nat) (e : zEv), (q ++ [e9])[i]? = some e → gk (h + i) = nI e.1 ∧ gp (h + i) = nI e.2 := by
    intro gk gp g1 g2 g3 i e hi
    by_cases hlt : i < q.length
    · rw [List.getElem?_append_left hlt] at hi
      obtain ⟨u1, u2⟩ := hq.2.2.2.2.2.2.2 i e hi
      rw [(g3 (h + i) (by omega)).1, (g3 (h + i) (by omega)).2]
      exact ⟨u1, u2⟩
    · by_cases hie : i = q.length
      · subst hie
        rw [List.getElem?_append_right (Nat.le_refl _), Nat.sub_self] at hi
        cases hi
        exact ⟨g1, g2⟩
      · rw [List.getElem?_eq_none (by rw [hlen]; omega)] at hi
        cases hi
  by_cases hlt : h + q.length < zK m
  · have e1 := zK_same hlt
    have e2 : zRmA 3 82 m (h + q.length + 1) = ({ frames := 3, cells := 0, slots := 0, locals := 82 } : Room) := by
      unfold zRmA
      rw [e1, Nat.sub_self]
    rw [e2]
    refine (c_X0_append (t := h + q.length) (x := nI e9.1) (y := nI e9.2) l D hq.1 hq.2.1 hq.2.2.1 hq.2.2.2.1 (by omega) hlt).imp ?_
    rintro v G9 ⟨rfl, kb, pb, gk, gp, g1, g2, g3, g4, g5, g6, g7, g8⟩
    refine ⟨rfl, by omega, kb, pb, F, gk, gp, ck, cp, ?_⟩
    rw [e1]
    exact zCls_queue hB g8 (by rw [hlen]; exact g1) g2 g3 g4 (by rw [hlen]; omega) hK.1 hK.2 (hev gk gp g5 g6 g7)
  · have hcap : h + q.length = zK m := by have := hq.2.2.2.2.1; omega
    have e1 := zK_grow hcap ht hm
    have e2 : zRmA 3 82 m (h + q.length + 1) = ({ frames := 3, cells := zK m, slots := 4 * zK m, locals := 82 } : Room) := by
      unfold zRmA
      rw [e1, show 2 * zK m - zK m = zK m by omega]
    rw [e2]
    have hqe := hq.1
    rw [hcap] at hqe
    refine (c_X0_append_grow (x := nI e9.1) (y := nI e9.2) l D hqe hq.2.1 hq.2.2.1 hq.2.2.2.1 (by omega) (by omega)).imp ?_
    rintro v G9 ⟨rfl, kb, pb, gk, gp, g1, g2, g3, g4, g5, g6, g7, g8⟩
    refine ⟨rfl, by omega, kb, pb, F, gk, gp, ck, cp, ?_⟩
    have hK2 := zK_in (max m (h + q.length + 1))
    rw [e1] at hK2 ⊢
    exact zCls_queue hB g8 (by rw [hlen, ← Nat.add_assoc, hcap]; exact g1) g2 g3 g4 (by rw [hlen]; omega) hK2.1 hK2.2 (hev gk gp (by rw [hcap]; exact g5) (by rw [hcap]; exact g6) (by rw [hcap]; exact g7))
