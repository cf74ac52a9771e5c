/-! ghost heaps: what lies at each address, with a tag that says whose it is -/
abbrev zE : Type := (FieldType × vp_A) ⊕ (Nat × List Value)
abbrev zG : Type := Nat → Option (Nat × zE)
def zat (D : va_G) (s : State) (a : Nat) (e : zE) (H : Heap) : Prop := match e with
  | .inl x => ∃ cA : ClassId, H[a]? = some (vp_cell cA x.2) ∧ ArrOfT s cA x.1 ∧ va_RA s cA x.1
  | .inr o => va_at D vwCl (a, .inr o) H
def zP (D : va_G) (s : State) (G : zG) (H : Heap) : Prop := ∀ (a t : Nat) (e : zE), G a = some (t, e) → zat D s a e H
theorem zat.kept {D : va_G} {s : State} {a : Nat} {e : zE} {H H1 : Heap} (h : zat D s a e H) (hq : H1[a]? = H[a]?) : zat D s a e H1 := by
  cases e with
  | inl x =>
    obtain ⟨cA, h1, h2⟩ := h
    exact ⟨cA, by rw [hq]; exact h1, h2⟩
  | inr o => exact va_at.kept (q := (a, .inr o)) h hq
theorem zat.moved {D : va_G} {s U : State} {a : Nat} {e : zE} {H : Heap} (hvm : s.vm.Alike U.vm) (h : zat D s a e H) : zat D U a e H := by
  cases e with
  | inl x =>
    obtain ⟨cA, h1, h2, h3⟩ := h
    exact ⟨cA, h1, arrOfT_moved hvm h2, h3.moved hvm⟩
  | inr o => exact h
theorem zat.lt {D : va_G} {s : State} {a : Nat} {e : zE} {H : Heap} (h : zat D s a e H) : a < H.size := by
  cases e with
  | inl x =>
    obtain ⟨cA, h1, h2⟩ := h
    exact (Array.getElem?_eq_some_iff.mp h1).1
  | inr o => exact va_at.lt (q := (a, .inr o)) h
theorem zP.moved {D : va_G} {s U : State} {G : zG} {H : Heap} (hvm : s.vm.Alike U.vm) (h : zP D s G H) : zP D U G H := fun a t e h1 => (h a t e h1).moved hvm
def zU (G : zG) (a : Nat) (x : Nat × zE) : zG := fun q => if q = a then some x else G q
theorem zU_self {G : zG} {a : Nat} {x : Nat × zE} : zU G a x a = some x := if_pos rfl
theorem zU_ne {G : zG} {a q : Nat} {x : Nat × zE} (h : q ≠ a) : zU G a x q = G q := if_neg h
theorem zP.upd {D : va_G} {s : State} {G : zG} {H H1 : Heap} {a t : Nat} {e : zE} (h : zP D s G H) (he : zat D s a e H1) (oq : ∀ q : Nat, q ≠ a → H1[q]? = H[q]?) : zP D s (zU G a (t, e)) H1 := by
  intro q t' e' hq
  by_cases hqa : q = a
  · subst hqa
    rw [zU_self] at hq
    cases hq
    exact he
  · rw [zU_ne hqa] at hq
    exact (h q t' e' hq).kept (oq q hqa)
theorem zP.new {D : va_G} {s : State} {G : zG} {H H1 : Heap} {a t : Nat} {e : zE} (h : zP D s G H) (ha : a = H.size) (he : zat D s a e H1) (oq : ∀ q : Nat, q < H.size → H1[q]? = H[q]?) : zP D s (zU G a (t, e)) H1 := by
  intro q t' e' hq
  by_cases hqa : q = a
  · subst hqa
    rw [zU_self] at hq
    cases hq
    exact he
  · rw [zU_ne hqa] at hq
    exact (h q t' e' hq).kept (oq q (h q t' e' hq).lt)
/-! locals by place -/
def zL (ls : Array Slot) (L : List (Option Value)) : Prop := ls.size = L.length ∧ lv_wf ls ∧ ∀ (i : Nat) (v : Value), L[i]? = some (some v) → ls[i]? = some (.val v)
def zclr (L : List (Option Value)) (i : Nat) : List (Option Value) := match L[i]? with
  | some (some (.long _)) => L.set i none
  | some (some (.double _)) => L.set i none
  | _ => L
def zs1 (i : Nat) (v : Value) (L : List (Option Value)) : List (Option Value) := (zclr L (i - 1)).set i (some v)
def zs2 (i : Nat) (v : Value) (L : List (Option Value)) : List (Option Value) := ((zclr L (i - 1)).set i (some v)).set (i + 1) none
theorem zclr_len {L : List (Option Value)} {i : Nat} : (zclr L i).length = L.length := by
  unfold zclr
  split <;> simp
theorem zclr_at {L : List (Option Value)} {i j : Nat} {w : Value} (h : (zclr L i)[j]? = some (some w)) : L[j]? = some (some w) ∧ ¬ (j = i ∧ w.category = 2) := by
  unfold zclr at h
  split at h
  · rename_i x hx
    by_cases hji : j = i
    · subst hji
      have hlt : j < L.length := (List.getElem?_eq_some_iff.mp hx).1
      rw [List.getElem?_set_self hlt] at h
      cases h
    · rw [List.getElem?_set_ne (Ne.symm hji)] at h
      exact ⟨h, fun q => hji q.1⟩
  · rename_i x hx
    by_cases hji : j = i
    · subst hji
      have hlt : j < L.length := (List.getElem?_eq_some_iff.mp hx).1
      rw [List.getElem?_set_self hlt] at h
      cases h
    · rw [List.getElem?_set_ne (Ne.symm hji)] at h
      exact ⟨h, fun q => hji q.1⟩
  · rename_i h1 h2
    refine ⟨h, fun q => ?_⟩
    obtain ⟨rfl, hc⟩ := q
    cases w with
    | long x => exact h1 x h
    | double x => exact h2 x h
    | int x => simp [Value.category] at hc
    | float x => simp [Value.category] at hc
    | null => simp [Value.category] at hc
    | ref x => simp [Value.category] at hc
    | retAddr x => simp [Value.category] at hc
/-- the listed values as the kit's list -/
def zl (L : List (Option Value)) (p : Nat → Bool) : List (Nat × Value) := (List.range L.length).filterMap fun i => if p i then (L.getD i none).map (fun v => (i, v)) else none
theorem zl_in {L : List (Option Value)} {p : Nat → Bool} {q : Nat × Value} : q ∈ zl L p ↔ (L[q.1]? = some (some q.2) ∧ p q.1 = true) := by
  unfold zl
  simp only [List.mem_filterMap, List.mem_range]
  constructor
  · rintro ⟨i, hi, h⟩
    split at h
    · rename_i hp
      rw [Option.map_eq_some_iff] at h
      obtain ⟨v, hv, rfl⟩ := h
      refine ⟨?_, hp⟩
      show L[i]? = some (some v)
      rw [List.getD_eq_getElem?_getD] at hv
      rw [List.getElem?_eq_getElem hi] at hv ⊢
      simpa using hv
    · cases h
  · rintro ⟨h, hp⟩
    have hi := (List.getElem?_eq_some_iff.mp h).1
    refine ⟨q.1, hi, ?_⟩
    rw [if_pos hp, List.getD_eq_getElem?_getD, h]
    rfl
theorem zL_has {ls : Array Slot} {L : List (Option Value)} (h : zL ls L) (p : Nat → Bool) : lv_has ls L.length (zl L p) := ⟨h.1, h.2.1, fun q hq => h.2.2 q.1 q.2 (zl_in.mp hq).1⟩
theorem zL_at {ls : Array Slot} {L : List (Option Value)} (h : zL ls L) {i : Nat} {v : Value} (hi : L[i]? = some (some v)) : ls[i]? = some (.val v) := h.2.2 i v hi
theorem zL_store1 {ls' : Array Slot} {L : List (Option Value)} {i : Nat} {v : Value} (h : lv_has ls' L.length ((i, v) :: (zl L (fun _ => true)).filter (fun q => !(q.1 == i) && !(q.1 + 1 == i && q.2.category == 2)))) : zL ls' (zs1 i v L) := by
  refine ⟨by rw [h.1]; simp [zs1, zclr_len], h.2.1, fun j w hj => ?_⟩
  unfold zs1 at hj
  by_cases hji : j = i
  · subst hji
    have hlt : j < (zclr L (j - 1)).length := by have := (List.getElem?_eq_some_iff.mp hj).1; simpa using this
    rw [List.getElem?_set_self hlt] at hj
    cases hj
    exact h.2.2 (j, v) List.mem_cons_self
  · rw [List.getElem?_set_ne (Ne.symm hji)] at hj
    obtain ⟨h1, h2⟩ := zclr_at hj
    refine h.2.2 (j, w) (List.mem_cons_of_mem _ (List.mem_filter.mpr ⟨zl_in.mpr ⟨h1, rfl⟩, ?_⟩))
    simp only [Bool.and_eq_true, Bool.not_eq_true', beq_eq_false_iff_ne, ne_eq, Bool.and_eq_false_iff]
    refine ⟨hji, ?_⟩
    by_cases hc : w.category = 2
    · left
      intro q
      exact h2 ⟨by omega, hc⟩
    · exact Or.inr hc
theorem zL_store2 {ls' : Array Slot} {L : List (Option Value)} {i : Nat} {v : Value} (h : lv_has ls' L.length ((i, v) :: (zl L (fun _ => true)).filter (fun q => !(q.1 == i) && (!(q.1 == i + 1) && !(q.1 + 1 == i && q.2.category == 2))))) : zL ls' (zs2 i v L) := by
  refine ⟨by rw [h.1]; simp [zs2, zclr_len], h.2.1, fun j w hj => ?_⟩
  unfold zs2 at hj
  by_cases hj1 : j = i + 1
  · subst hj1
    have hlt : i + 1 < ((zclr L (i - 1)).set i (some v)).length := by have := (List.getElem?_eq_some_iff.mp hj).1; simpa using this
    rw [List.getElem?_set_self hlt] at hj
    cases hj
  rw [List.getElem?_set_ne (Ne.symm hj1)] at hj
  by_cases hji : j = i
  · subst hji
    have hlt : j < (zclr L (j - 1)).length := by have := (List.getElem?_eq_some_iff.mp hj).1; simpa using this
    rw [List.getElem?_set_self hlt] at hj
    cases hj
    exact h.2.2 (j, v) List.mem_cons_self
  · rw [List.getElem?_set_ne (Ne.symm hji)] at hj
    obtain ⟨h1, h2⟩ := zclr_at hj
    refine h.2.2 (j, w) (List.mem_cons_of_mem _ (List.mem_filter.mpr ⟨zl_in.mpr ⟨h1, rfl⟩, ?_⟩))
    simp only [Bool.and_eq_true, Bool.not_eq_true', beq_eq_false_iff_ne, ne_eq, Bool.and_eq_false_iff]
    refine ⟨hji, hj1, ?_⟩
    by_cases hc : w.category = 2
    · left
      intro q
      exact h2 ⟨by omega, hc⟩
    · exact Or.inr hc
/-- what is known of the locals, less of it -/
def zle : List (Option Value) → List (Option Value) → Prop
  | [], [] => True
  | none :: a, _ :: b => zle a b
  | some v :: a, w :: b => w = some v ∧ zle a b
  | _, _ => False
theorem zle_at : ∀ {a b : List (Option Value)}, zle a b → a.length = b.length ∧ ∀ (i : Nat) (v : Value), a[i]? = some (some v) → b[i]? = some (some v)
  | [], [], _ => ⟨rfl, fun i v h => h⟩
  | none :: a, w :: b, h => by
    obtain ⟨h1, h2⟩ := zle_at (a := a) (b := b) h
    refine ⟨by simp [h1], fun i v hi => ?_⟩
    cases i with
    | zero => simp at hi
    | succ i => simpa using h2 i v (by simpa using hi)
  | some x :: a, w :: b, h => by
    obtain ⟨hw, h'⟩ := h
    obtain ⟨h1, h2⟩ := zle_at (a := a) (b := b) h'
    refine ⟨by simp [h1], fun i v hi => ?_⟩
    cases i with
    | zero => simp at hi; simp [hw, hi]
    | succ i => simpa using h2 i v (by simpa using hi)
  | [], _ :: _, h => by cases h
  | none :: _, [], h => by cases h
  | some _ :: _, [], h => by cases h
theorem zL_less {ls : Array Slot} {a b : List (Option Value)} (h : zL ls b) (hab : zle a b) : zL ls a := by
  obtain ⟨h1, h2⟩ := zle_at hab
  exact ⟨by rw [h.1, h1], h.2.1, fun i v hi => h.2.2 i v (h2 i v hi)⟩
/-- the locals with which a method begins -/
def zin : List Value → List (Option Value)
  | [] => []
  | .long x :: vs => some (.long x) :: none :: zin vs
  | .double x :: vs => some (.double x) :: none :: zin vs
  | v :: vs => some v :: zin vs
theorem zin_len : ∀ vs : List Value, (zin vs).length = (lg_sl vs).length
  | [] => rfl
  | v :: vs => by
    have h := zin_len vs
    have e : (lg_sl (v :: vs)).length = (if v.category = 2 then 2 else 1) + (lg_sl vs).length := by
      simp only [lg_sl, List.flatMap_cons, List.length_append]
      split <;> rfl
    rw [e]
    cases v <;> simp [zin, Value.category, h] <;> omega
theorem zin_at : ∀ (vs : List Value) (k i : Nat) (v : Value), (zin vs)[i]? = some (some v) → (k + i, v) ∈ lv_args k vs
  | [], k, i, v, h => by simp [zin] at h
  | w :: vs, k, i, v, h => by
    have ih := zin_at vs
    cases w with
    | long x =>
      match i, h with
      | 0, h => simp [zin] at h; subst h; exact List.mem_cons_self
      | 1, h => simp [zin] at h
      | i + 2, h =>
        have := ih (k + 2) i v (by simpa [zin] using h)
        refine List.mem_cons_of_mem _ ?_
        simp only [Value.category, if_true]
        rw [show k + (i + 2) = k + 2 + i by omega]
        exact this
    | double x =>
      match i, h with
      | 0, h => simp [zin] at h; subst h; exact List.mem_cons_self
      | 1, h => simp [zin] at h
      | i + 2, h =>
        have := ih (k + 2) i v (by simpa [zin] using h)
        refine List.mem_cons_of_mem _ ?_
        simp only [Value.category, if_true]
        rw [show k + (i + 2) = k + 2 + i by omega]
        exact this
    | _ =>
      match i, h with
      | 0, h => simp [zin] at h; subst h; exact List.mem_cons_self
      | i + 1, h =>
        have := ih (k + 1) i v (by simpa [zin] using h)
        refine List.mem_cons_of_mem _ ?_
        simp only [Value.category]
        rw [show k + (i + 1) = k + 1 + i by omega]
        simpa using this
theorem zL_entry (vs : List Value) {n : Nat} (h : (lg_sl vs).length ≤ n) : zL ((lg_sl vs ++ List.replicate (n - (lg_sl vs).length) Slot.unset).toArray) (zin vs ++ List.replicate (n - (zin vs).length) none) := by
  have hl := lv_entry vs h
  refine ⟨by rw [hl.1]; simp [zin_len]; omega, hl.2.1, fun i v hi => ?_⟩
  by_cases hlt : i < (zin vs).length
  · rw [List.getElem?_append_left hlt] at hi
    have := zin_at vs 0 i v hi
    rw [Nat.zero_add] at this
    exact hl.2.2 (i, v) this
  · rw [List.getElem?_append_right (by omega)] at hi
    have := List.eq_of_mem_replicate (List.mem_of_getElem? hi)
    cases this
