/-! bits of ints -/
def zbit (x : Int32) (s : Nat) : Bool := x.toBitVec.getLsbD s
theorem zsh31 {s : Nat} (h : s < 32) : nI s &&& 31 = nI s := by
  rw [pk_andN (n := s) (by omega) 5 rfl]
  congr 1
  exact Nat.mod_eq_of_lt (by omega)
theorem zsmod {s : Nat} (h : s < 32) : (nI s).toBitVec.smod 32 = BitVec.ofNat 32 s := by
  have : ∀ s : Fin 32, (nI s.val).toBitVec.smod 32 = BitVec.ofNat 32 s.val := by decide +kernel
  exact this ⟨s, h⟩
theorem zbit_and (a b : Int32) (s : Nat) : zbit (a &&& b) s = (zbit a s && zbit b s) := by
  simp [zbit]
theorem zbit_or (a b : Int32) (s : Nat) : zbit (a ||| b) s = (zbit a s || zbit b s) := by
  simp [zbit]
theorem zbit_not (a : Int32) {s : Nat} (h : s < 32) : zbit (a ^^^ (-1)) s = !zbit a s := by
  have e : (-1 : Int32).toBitVec = BitVec.allOnes 32 := rfl
  simp [zbit, e, h]
theorem zbit_sh {s t : Nat} (hs : s < 32) (ht : t < 32) : zbit (zSh s) t = decide (t = s) := by
  have : ∀ s t : Fin 32, zbit (zSh s.val) t.val = decide (t.val = s.val) := by decide +kernel
  exact this ⟨s, hs⟩ ⟨t, ht⟩
theorem zbit_ext {a b : Int32} (h : ∀ s, s < 32 → zbit a s = zbit b s) : a = b := by
  apply Int32.toBitVec_inj.mp
  apply BitVec.eq_of_getLsbD_eq
  intro i hi
  exact h i hi
theorem zbit_0 (s : Nat) : zbit 0 s = false := by simp [zbit]
theorem zbit_clr {x : Int32} {s t : Nat} (hs : s < 32) (ht : t < 32) : zbit (zClr x s) t = (zbit x t && !decide (t = s)) := by
  unfold zClr
  rw [zbit_and, zbit_not _ ht, zbit_sh hs ht]
theorem zbit_ne0 {x : Int32} : x ≠ 0 ↔ ∃ s, s < 32 ∧ zbit x s = true := by
  constructor
  · intro h
    by_cases hx : ∃ s, s < 32 ∧ zbit x s = true
    · exact hx
    · exact absurd (zbit_ext (fun s hs => by
        rw [zbit_0]
        cases hb : zbit x s with
        | false => rfl
        | true => exact absurd ⟨s, hs, hb⟩ hx)) h
  · rintro ⟨s, hs, hb⟩ rfl
    rw [zbit_0] at hb
    cases hb
theorem zbit_shne {x : Int32} {s : Nat} (hs : s < 32) : x &&& zSh s ≠ 0 ↔ zbit x s = true := by
  rw [zbit_ne0]
  constructor
  · rintro ⟨t, ht, hb⟩
    rw [zbit_and, zbit_sh hs ht, Bool.and_eq_true, decide_eq_true_eq] at hb
    rw [← hb.2]; exact hb.1
  · intro h
    exact ⟨s, hs, by rw [zbit_and, zbit_sh hs hs, h]; simp⟩
theorem zbit_1 {t : Nat} (ht : t < 32) : zbit 1 t = decide (t = 0) := by
  have : ∀ t : Fin 32, zbit 1 t.val = decide (t.val = 0) := by decide +kernel
  exact this ⟨t, ht⟩
theorem zbit_shr {x : Int32} {s : Nat} (hs : s < 32) : (x >>> (nI s &&& 31)).toBitVec.getLsbD 0 = zbit x s := by
  rw [zsh31 hs, Int32.toBitVec_shiftRight, zsmod hs]
  unfold zbit
  rw [BitVec.sshiftRight', BitVec.toNat_ofNat, Nat.mod_eq_of_lt (show s < 2 ^ 32 by omega), BitVec.getLsbD_sshiftRight]
  simp [hs]
theorem zbit_low {x : Int32} : (x &&& 1 = 1) ↔ zbit x 0 = true := by
  constructor
  · intro h
    have h1 : zbit (x &&& 1) 0 = true := by rw [h, zbit_1 (by decide)]; rfl
    rw [zbit_and, Bool.and_eq_true] at h1
    exact h1.1
  · intro h
    apply zbit_ext
    intro s hs
    rw [zbit_and, zbit_1 hs]
    by_cases h0 : s = 0
    · subst h0; simp [h]
    · simp [h0]
theorem zbit_low0 {x : Int32} : (x &&& 1 = 0) ↔ zbit x 0 = false := by
  have h1 : x &&& 1 ≠ 0 ↔ zbit x 0 = true := zbit_shne (s := 0) (by decide)
  cases hb : zbit x 0 with
  | false =>
    rw [hb] at h1
    simp only [Bool.false_eq_true, iff_false, Classical.not_not] at h1
    simp [h1]
  | true =>
    rw [hb] at h1
    simp only [iff_true] at h1
    simp [h1]
theorem zbt_bit {x : Int32} {s : Nat} (hs : s < 32) : zbt x s ↔ zbit x s = true := by
  unfold zbt
  rw [zbit_low]
  show (x >>> (nI s &&& 31)).toBitVec.getLsbD 0 = true ↔ _
  rw [zbit_shr hs]
theorem zshr0 {x : Int32} {s : Nat} (hs : s < 32) : (x >>> (nI s &&& 31) &&& 1 = 0) ↔ zbit x s = false := by
  rw [zbit_low0]
  show (x >>> (nI s &&& 31)).toBitVec.getLsbD 0 = false ↔ _
  rw [zbit_shr hs]
theorem zbit_511 {s : Nat} (hs : s < 32) : zbit 511 s = decide (s < 9) := by
  have : ∀ t : Fin 32, zbit 511 t.val = decide (t.val < 9) := by decide +kernel
  exact this ⟨s, hs⟩
theorem zbit_9 {x : Int32} (h : x &&& 511 = x) {s : Nat} (hs : s < 32) (hb : zbit x s = true) : s < 9 := by
  rw [← h, zbit_and, zbit_511 hs, Bool.and_eq_true, decide_eq_true_eq] at hb
  exact hb.2
theorem zopen_bit {σ : zS} {p s : Nat} (hs : s < 32) : zbit (zOpen σ p) s = (zbit (σ 11 p) s && !zbit (σ 10 p) s) := by
  unfold zOpen
  rw [zbit_and, zbit_not _ hs]
theorem zbit_small {x : Int32} (h : ∀ s, s < 32 → zbit x s = true → s < 9) : x &&& 511 = x := by
  apply zbit_ext
  intro s hs
  rw [zbit_and, zbit_511 hs]
  cases hb : zbit x s with
  | false => simp
  | true => simp [h s hs hb]
/-- bits of longs -/
def zlbit (x : Int64) (s : Nat) : Bool := x.toBitVec.getLsbD s
theorem zlbit_or (a b : Int64) (s : Nat) : zlbit (a ||| b) s = (zlbit a s || zlbit b s) := by
  simp [zlbit]
theorem zlbit_and (a b : Int64) (s : Nat) : zlbit (a &&& b) s = (zlbit a s && zlbit b s) := by
  simp [zlbit]
theorem zlbit_not (a : Int64) {s : Nat} (h : s < 64) : zlbit (a ^^^ (-1)) s = !zlbit a s := by
  have e : (-1 : Int64).toBitVec = BitVec.allOnes 64 := rfl
  simp [zlbit, e, h]
theorem zlbit_0 (s : Nat) : zlbit 0 s = false := by simp [zlbit]
def zlSh (s : Nat) : Int64 := 1 <<< ((nI s).toInt64 &&& 63)
theorem zlbit_sh {s t : Nat} (hs : s < 64) (ht : t < 64) : zlbit (zlSh s) t = decide (t = s) := by
  have : ∀ s t : Fin 64, zlbit (zlSh s.val) t.val = decide (t.val = s.val) := by decide +kernel
  exact this ⟨s, hs⟩ ⟨t, ht⟩
theorem zlsmod {s : Nat} (h : s < 64) : ((nI s).toInt64 &&& 63).toBitVec.smod 64 = BitVec.ofNat 64 s := by
  have : ∀ s : Fin 64, ((nI s.val).toInt64 &&& 63).toBitVec.smod 64 = BitVec.ofNat 64 s.val := by decide +kernel
  exact this ⟨s, h⟩
theorem zlbit_shr {x : Int64} {s : Nat} (hs : s < 64) : (x >>> ((nI s).toInt64 &&& 63)).toBitVec.getLsbD 0 = zlbit x s := by
  rw [Int64.toBitVec_shiftRight, zlsmod hs]
  unfold zlbit
  rw [BitVec.sshiftRight', BitVec.toNat_ofNat, Nat.mod_eq_of_lt (show s < 2 ^ 64 by omega), BitVec.getLsbD_sshiftRight]
  simp [hs]
theorem zlbit_1 {t : Nat} (ht : t < 64) : zlbit 1 t = decide (t = 0) := by
  have : ∀ t : Fin 64, zlbit 1 t.val = decide (t.val = 0) := by decide +kernel
  exact this ⟨t, ht⟩
theorem zlbit_ext {a b : Int64} (h : ∀ s, s < 64 → zlbit a s = zlbit b s) : a = b := by
  apply Int64.toBitVec_inj.mp
  apply BitVec.eq_of_getLsbD_eq
  intro i hi
  exact h i hi
theorem zlbit_low {x : Int64} : (x &&& 1 = 1) ↔ zlbit x 0 = true := by
  constructor
  · intro h
    have h1 : zlbit (x &&& 1) 0 = true := by rw [h, zlbit_1 (by decide)]; rfl
    rw [zlbit_and, Bool.and_eq_true] at h1
    exact h1.1
  · intro h
    apply zlbit_ext
    intro s hs
    rw [zlbit_and, zlbit_1 hs]
    by_cases h0 : s = 0
    · subst h0; simp [h]
    · simp [h0]
theorem zlbt {x : Int64} {s : Nat} (hs : s < 64) : (x >>> ((nI s).toInt64 &&& 63) &&& 1 = 1) ↔ zlbit x s = true := by
  rw [zlbit_low]
  show (x >>> ((nI s).toInt64 &&& 63)).toBitVec.getLsbD 0 = true ↔ _
  rw [zlbit_shr hs]
