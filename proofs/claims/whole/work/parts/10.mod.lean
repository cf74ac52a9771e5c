/-! the reference's heap, as its rows by field and index -/
abbrev zMf (ma : Nat → Nat) (r : zS) : List Value := [.ref (ma 0), .ref (ma 1), .ref (ma 2), .ref (ma 3), .ref (ma 4), .ref (ma 5), .ref (ma 6), .ref (ma 7), .ref (ma 8), .ref (ma 9), .ref (ma 10), .ref (ma 11), .ref (ma 12), .ref (ma 13), .ref (ma 14), .ref (ma 15), .ref (ma 16), .ref (ma 17), .ref (ma 18), .ref (ma 19), .ref (ma 20), .int (r 21 0), .int (r 22 0), .int (r 23 0), .ref (ma 24), .int (r 25 0), .int (r 26 0), .ref (ma 27), .ref (ma 28)]
def mnum (k : Nat) : Bool := k == 21 || k == 22 || k == 23 || k == 25 || k == 26
def mbool (k : Nat) : Bool := k == 0 || k == 4 || k == 5 || k == 6 || k == 8 || k == 13 || k == 17 || k == 27 || k == 28
def mty (k : Nat) : FieldType := if mbool k then .boolean else .int
def mlen (k : Nat) : Nat := if k = 9 then 369 else if k = 24 then 8192 else 41
def zModR (B : zG) (y : Nat) (ma : Nat → Nat) (r : zS) (G : zG) : Prop :=
  zFr 2 B G ∧ G y = some (2, .inr (3, zMf ma r)) ∧ (∀ k, k < 29 → mnum k = false → G (ma k) = some (2, .inl (mty k, mlen k, .inl (r k)))) ∧ ∀ j k, j < 29 → k < 29 → mnum j = false → mnum k = false → ma j = ma k → j = k
theorem zModR.arr {B : zG} {y : Nat} {ma : Nat → Nat} {r : zS} {G : zG} (h : zModR B y ma r G) (k : Nat) (hk : k < 29 ∧ mnum k = false) : G (ma k) = some (2, .inl (mty k, mlen k, .inl (r k))) := h.2.2.1 k hk.1 hk.2
theorem zModR.store {B : zG} {y : Nat} {ma : Nat → Nat} {r : zS} {G : zG} (h : zModR B y ma r G) {k i : Nat} {v : Int32} (hk : k < 29 ∧ mnum k = false) : zModR B y ma (zu r k i v) (zU G (ma k) (2, .inl (mty k, mlen k, .inl (upd (r k) i v)))) := by
  obtain ⟨h1, h2, h3, h4⟩ := h
  have hy : y ≠ ma k := fun z => by rw [z, h3 k hk.1 hk.2] at h2; cases h2
  refine ⟨h1.upd (h3 k hk.1 hk.2), ?_, fun j hj1 hj2 => ?_, h4⟩
  · rw [zU_ne hy, h2]
    have e : ∀ j, mnum j = true → (zu r k i v) j = r j := fun j hj => zu_off (fun z => by rw [z, hk.2] at hj; cases hj)
    simp only [zMf, e 21 rfl, e 22 rfl, e 23 rfl, e 25 rfl, e 26 rfl]
  · by_cases hjk : j = k
    · subst hjk
      rw [zU_self, zu_at]
    · rw [zU_ne (fun z => hjk (h4 j k hj1 hk.1 hj2 hk.2 z)), zu_off hjk]
      exact h3 j hj1 hj2
theorem zModR.num {B : zG} {y : Nat} {ma : Nat → Nat} {r : zS} {G : zG} (h : zModR B y ma r G) {k : Nat} {v : Int32} (hk : k < 29 ∧ mnum k = true) {fs : List Value} (hf : fs = zMf ma (zu r k 0 v)) : zModR B y ma (zu r k 0 v) (zU G y (2, .inr (3, fs))) := by
  obtain ⟨h1, h2, h3, h4⟩ := h
  refine ⟨h1.upd h2, by rw [zU_self, hf], fun j hj1 hj2 => ?_, h4⟩
  have hy : ma j ≠ y := fun z => by
    have := h3 j hj1 hj2
    rw [z, h2] at this
    cases this
  rw [zU_ne hy, zu_off (fun z => by rw [z, hk.2] at hj2; cases hj2)]
  exact h3 j hj1 hj2
section ZMR
variable {p : Program} {l : Launch} {e : Env} {R : Room} {s : State} {m : MethodId} {args : Array Value} {below : List Frame} {meth : Method} {c : Code} {D : va_G} {A : Nat → Prop} {cells slots : Nat} {Q : State → Prop} {G : zG} {pc : Nat} {L : List (Option Value)} {st : List Value}
variable {cc : ByteArray} {nL : Nat} {own : String} {Ts : List Cond} {ret : Option FieldType} {B : zG} {y : Nat} {ma : Nat → Nat} {r : zS}
theorem zz_mld (C : zC p s m args meth c D A cc nL own Ts ret) (hR : zModR B y ma r G) (k : Nat) {i : Nat} {x : Int32} (hk : k < 29 ∧ mnum k = false) (hb : mbool k = false) (hdg : decode cc pc = .ok (.iaload, 1)) (hx : x = nI i) (hi : i < mlen k)
    (kk : zV p l e R s m args below meth c D A cells slots Q G (pc + 1) L (.int (r k i) :: st)) : zV p l e R s m args below meth c D A cells slots Q G pc L (.int x :: .ref (ma k) :: st) := by
  subst hx
  have hl : mlen k < 2 ^ 31 := by unfold mlen; split <;> (try split) <;> decide
  refine zz_iald C hdg (n := mlen k) (f := r k) (t := 2) (by rw [hR.arr k hk]; simp [mty, hb]) (vp_in_nI hi hl) ?_
  rw [nI_ic (by omega)]
  exact kk
theorem zz_mldz (C : zC p s m args meth c D A cc nL own Ts ret) (hR : zModR B y ma r G) (k : Nat) {i : Nat} {x : Int32} (hk : k < 29 ∧ mnum k = false) (hb : mbool k = true) (hdg : decode cc pc = .ok (.baload, 1)) (hx : x = nI i) (hi : i < mlen k)
    (kk : zV p l e R s m args below meth c D A cells slots Q G (pc + 1) L (.int (r k i) :: st)) : zV p l e R s m args below meth c D A cells slots Q G pc L (.int x :: .ref (ma k) :: st) := by
  subst hx
  have hl : mlen k < 2 ^ 31 := by unfold mlen; split <;> (try split) <;> decide
  refine zz_zald C hdg (n := mlen k) (f := r k) (t := 2) (by rw [hR.arr k hk]; simp [mty, hb]) (vp_in_nI hi hl) ?_
  rw [nI_ic (by omega)]
  exact kk
theorem zz_mst (C : zC p s m args meth c D A cc nL own Ts ret) (hR : zModR B y ma r G) (k : Nat) {i : Nat} {x v : Int32} (hk : k < 29 ∧ mnum k = false) (hb : mbool k = false) (hdg : decode cc pc = .ok (.iastore, 1)) (hx : x = nI i) (hi : i < mlen k)
    (kk : ∀ G' : zG, zModR B y ma (zu r k i v) G' → zV p l e R s m args below meth c D A cells slots Q G' (pc + 1) L st) : zV p l e R s m args below meth c D A cells slots Q G pc L (.int v :: .int x :: .ref (ma k) :: st) := by
  subst hx
  have hl : mlen k < 2 ^ 31 := by unfold mlen; split <;> (try split) <;> decide
  have hm : mty k = .int := by simp [mty, hb]
  refine zz_iast C hdg (n := mlen k) (f := r k) (t := 2) (by rw [hR.arr k hk, hm]) (vp_in_nI hi hl) ?_
  rw [nI_ic (by omega), ← hm]
  exact kk _ (hR.store hk)
theorem zz_mstz (C : zC p s m args meth c D A cc nL own Ts ret) (hR : zModR B y ma r G) (k : Nat) {i : Nat} {x v : Int32} (hk : k < 29 ∧ mnum k = false) (hb : mbool k = true) (hdg : decode cc pc = .ok (.bastore, 1)) (hx : x = nI i) (hi : i < mlen k) (hv : vp_nar .boolean v = v)
    (kk : ∀ G' : zG, zModR B y ma (zu r k i v) G' → zV p l e R s m args below meth c D A cells slots Q G' (pc + 1) L st) : zV p l e R s m args below meth c D A cells slots Q G pc L (.int v :: .int x :: .ref (ma k) :: st) := by
  subst hx
  have hl : mlen k < 2 ^ 31 := by unfold mlen; split <;> (try split) <;> decide
  have hm : mty k = .boolean := by simp [mty, hb]
  refine zz_zast C hdg (n := mlen k) (f := r k) (t := 2) (by rw [hR.arr k hk, hm]) (vp_in_nI hi hl) ?_
  rw [nI_ic (by omega), hv, ← hm]
  exact kk _ (hR.store hk)
theorem zz_mput (C : zC p s m args meth c D A cc nL own Ts ret) (hin : ∀ w ∈ u_ws RX3 TX3 29, w ∈ Ts) (hR : zModR B y ma r G) (k : Nat) {index : Nat} {v : Int32} (hk : k = 21 ∨ k = 22 ∨ k = 23 ∨ k = 25 ∨ k = 26) (hlink : Cond.fieldLink own index "SignalpostModel" (TX3 k).2.1 (TX3 k).2.2.1 ∈ Ts) (hdg : decode cc pc = .ok (.putfield index, 3))
    (kk : ∀ G' : zG, zModR B y ma (zu r k 0 v) G' → zV p l e R s m args below meth c D A cells slots Q G' (pc + 3) L st) : zV p l e R s m args below meth c D A cells slots Q G pc L (.int v :: .ref y :: st) := by
  have hk1 : k < 29 ∧ mnum k = true := by rcases hk with rfl | rfl | rfl | rfl | rfl <;> decide
  refine zz_put C hin tyX3 tyX3_ok nmX3 (ci := 3) (t := 2) (fs := zMf ma r) rfl k hk1.1 hlink (by rcases hk with rfl | rfl | rfl | rfl | rfl <;> rfl) (by rcases hk with rfl | rfl | rfl | rfl | rfl <;> rfl) hdg hR.2.1 (by rcases hk with rfl | rfl | rfl | rfl | rfl <;> rfl) (by rcases hk with rfl | rfl | rfl | rfl | rfl <;> rfl) hk1.1 ?_
  refine kk _ (hR.num hk1 ?_)
  rcases hk with rfl | rfl | rfl | rfl | rfl <;> simp [zMf, zu]
end ZMR
/-- an event as the ring holds it -/
def zCode (e : zEv) : Nat := if e.1 = 9 then 2000 + e.2 else if e.1 = 10 then 3000 + e.2 else 1000 + 50 * e.1 + e.2
def zRing (r : zS) (q : List zEv) : Prop := ∃ hd : Nat, hd < 8192 ∧ r 25 0 = nI hd ∧ r 26 0 = nI ((hd + q.length) % 8192) ∧ q.length < 8192 ∧ ∀ (i : Nat) (e : zEv), q[i]? = some e → r 24 ((hd + i) % 8192) = nI (zCode e)
abbrev zAg (r σ : zS) : Prop := ∀ k, k ≤ 22 → r k = σ k
def zMod (B : zG) (y : Nat) (ma : Nat → Nat) (σ : zS) (q : List zEv) (th : Int32) (G : zG) : Prop :=
  ∃ r : zS, zModR B y ma r G ∧ zAg r σ ∧ r 23 0 = th ∧ zRing r q
