/-! rows of the law's own body: the script, the switch, the flags -/
section ZLW
variable {p : Program} {l : Launch} {e : Env} {R : Room} {s : State} {m : MethodId} {args : Array Value} {below : List Frame} {meth : Method} {c : Code} {D : va_G} {A : Nat → Prop} {cells slots : Nat} {Q : State → Prop} {G : zG} {pc : Nat} {L : List (Option Value)} {st : List Value}
variable {cc : ByteArray} {nL : Nat} {own : String} {Ts : List Cond} {ret : Option FieldType}
theorem zz_sld (C : zC p s m args meth c D A cc nL own Ts ret) {b Ln : Nat} {xs : Nat → Int32} (hX : va_X b Ln xs s s.heap) (hbl : b < s.heap.size) (hbA : ¬ A b) {i v : Int32} (hin : vp_in i Ln) (hv : xs i.toNatClampNeg = v) (hdg : decode cc pc = .ok (.iaload, 1))
    (kk : zV p l e R s m args below meth c D A cells slots Q G (pc + 1) L (.int v :: st)) : zV p l e R s m args below meth c D A cells slots Q G pc L (.int i :: .ref b :: st) := by
  subst hv
  exact fun H locs ls hP hS hG hL => va_sld C.1.1 C.1.2.1 hX hbl hbA hS hin hdg (kk H locs ls hP hS hG hL)
theorem zz_slen (C : zC p s m args meth c D A cc nL own Ts ret) {b Ln : Nat} {xs : Nat → Int32} (hX : va_X b Ln xs s s.heap) (hbl : b < s.heap.size) (hbA : ¬ A b) (hdg : decode cc pc = .ok (.arraylength, 1))
    (kk : zV p l e R s m args below meth c D A cells slots Q G (pc + 1) L (.int (nI Ln) :: st)) : zV p l e R s m args below meth c D A cells slots Q G pc L (.ref b :: st) :=
  fun H locs ls hP hS hG hL => va_slen C.1.1 C.1.2.1 hX hbl hbA hS hdg (kk H locs ls hP hS hG hL)
theorem zz_tabOut (C : zC p s m args meth c D A cc nL own Ts ret) {dflt lo hi : Int} {offs : Array Int} {len : Nat} {x : Int32} {tgt : Nat} (hdg : decode cc pc = .ok (.tableswitch dflt lo hi offs, len)) (h : x.toInt < lo ∨ hi < x.toInt) (ht : (pc : Int) + dflt = (tgt : Int))
    (kk : zV p l e R s m args below meth c D A cells slots Q G tgt L st) : zV p l e R s m args below meth c D A cells slots Q G pc L (.int x :: st) := fun H locs ls hP hS hG hL => lv_tableOut C.1.1 C.1.2.1 hdg h ht (kk H locs ls hP hS hG hL)
theorem zz_tabIn (C : zC p s m args meth c D A cc nL own Ts ret) {dflt lo hi : Int} {offs : Array Int} {len : Nat} {x : Int32} {off : Int} {tgt : Nat} (hdg : decode cc pc = .ok (.tableswitch dflt lo hi offs, len)) (h1 : ¬ x.toInt < lo) (h2 : ¬ hi < x.toInt) (ho : offs[(x.toInt - lo).toNat]? = some off) (ht : (pc : Int) + off = (tgt : Int))
    (kk : zV p l e R s m args below meth c D A cells slots Q G tgt L st) : zV p l e R s m args below meth c D A cells slots Q G pc L (.int x :: st) := fun H locs ls hP hS hG hL => lv_tableIn C.1.1 C.1.2.1 hdg h1 h2 ho ht (kk H locs ls hP hS hG hL)
theorem zz_flag (C : zC p s m args meth c D A cc nL own Ts ret) {a v : Int32} (hv : (if a = 0 then (0 : Int32) else 1) = v) (d0 : decode cc pc = .ok (.ifCond .eq 7, 3)) (d3 : decode cc (pc + 3) = .ok (.iconst 1, 1)) (d4 : decode cc (pc + 4) = .ok (.goto 4, 3)) (d7 : decode cc (pc + 7) = .ok (.iconst 0, 1))
    (kk : zV p l e R s m args below meth c D A cells slots Q G (pc + 8) L (.int v :: st)) : zV p l e R s m args below meth c D A cells slots Q G pc L (.int a :: st) := by
  subst hv
  refine zz_if_eq (pc := pc) C (tgt := pc + 7) d0 (by omega) (fun h => ?_) (fun h => ?_)
  · refine zz_iconst (pc := pc + 7) C (v := 0) (by decide) d7 ?_
    rw [if_pos h] at kk
    exact kk
  · refine zz_iconst (pc := pc + 3) C (v := 1) (by decide) d3 ?_
    refine zz_goto (pc := pc + 4) C (tgt := pc + 8) d4 (by omega) ?_
    rw [if_neg h] at kk
    exact kk
theorem zz_flagL (C : zC p s m args meth c D A cc nL own Ts ret) {a : Int32} (d0 : decode cc pc = .ok (.ifCond .eq 7, 3)) (d3 : decode cc (pc + 3) = .ok (.lconst 1, 1)) (d4 : decode cc (pc + 4) = .ok (.goto 4, 3)) (d7 : decode cc (pc + 7) = .ok (.lconst 0, 1))
    (kk : zV p l e R s m args below meth c D A cells slots Q G (pc + 8) L (.long (if a = 0 then (0 : Int64) else 1) :: st)) : zV p l e R s m args below meth c D A cells slots Q G pc L (.int a :: st) := by
  refine zz_if_eq (pc := pc) C (tgt := pc + 7) d0 (by omega) (fun h => ?_) (fun h => ?_)
  · refine zz_lconst (pc := pc + 7) C (v := 0) rfl d7 ?_
    rw [if_pos h] at kk
    exact kk
  · refine zz_lconst (pc := pc + 3) C (v := 1) rfl d3 ?_
    refine zz_goto (pc := pc + 4) C (tgt := pc + 8) d4 (by omega) ?_
    rw [if_neg h] at kk
    exact kk
end ZLW
theorem zCmp_0 {a : Int64} : lg_cmp a a = 0 := by simp [lg_cmp]
theorem zCmp_i {TH v : Int32} {w9 : Nat → Int64} (hw : TH = 0 → ∀ z, some (v.toInt64) = some z → w9 0 = z) (h0 : TH = 0) : lg_cmp (w9 (0 : Int32).toNatClampNeg) ((if TH = 0 then v else 0).toInt64) = 0 := by
  rw [if_pos h0, ← hw h0 _ rfl]
  exact zCmp_0
theorem zCmp_b {TH v : Int32} {w9 : Nat → Int64} (hw : TH = 0 → ∀ z, some (if v = 0 then (0 : Int64) else 1) = some z → w9 0 = z) (h0 : TH = 0) : lg_cmp (w9 (0 : Int32).toNatClampNeg) (if (if TH = 0 then v else 0) = 0 then (0 : Int64) else 1) = 0 := by
  rw [if_pos h0, ← hw h0 _ rfl]
  exact zCmp_0
theorem zIfW {TH : Int32} {a b : zS} (ha : TH = 0 → zWf a) (hb : zWf b) : zWf (if TH = 0 then a else b) := by
  by_cases h : TH = 0
  · rw [if_pos h]; exact ha h
  · rw [if_neg h]; exact hb
theorem zSg6 (f : Int32) : (f = 0 ∧ (if f = 0 then (1 : Int32) else 6) = 1) ∨ (¬ f = 0 ∧ (if f = 0 then (1 : Int32) else 6) = 6) := by
  by_cases h : f = 0
  · exact Or.inl ⟨h, if_pos h⟩
  · exact Or.inr ⟨h, if_neg h⟩
theorem zFl01 {a f : Int32} (h : (if a = 0 then (0 : Int32) else 1) = f) : f = 0 ∨ f = 1 := by
  by_cases h0 : a = 0
  · rw [if_pos h0] at h; exact Or.inl h.symm
  · rw [if_neg h0] at h; exact Or.inr h.symm
theorem zFlN {f : Int32} (h : f = 0 ∨ f = 1) : vp_nar .boolean f = f := by
  rcases h with rfl | rfl <;> decide
theorem zLe3 {cells a b c k : Nat} (h1 : a ≤ k) (h2 : b = 0) (h3 : c = 0) : cells + a + b + c ≤ cells + k := by omega
theorem zLe2 {cells b c k : Nat} (h2 : b = 0) (h3 : c = 0) : cells + b + c ≤ cells + k := by omega
theorem zK_max (m : Nat) : zK m ≤ 16384 := by
  have := zK_cases m
  omega
theorem zRmC {cells a m0 T k : Nat} (h : cells + (8 + (16384 - zK m0)) ≤ 601024) (ha : a ≤ k + zW m0 T) (hk : k ≤ 8) : cells + a ≤ 601024 := by
  have h1 := zK_max (max m0 T)
  have h2 : zW m0 T = zK (max m0 T) - zK m0 := rfl
  omega
theorem zRmS {slots a m0 T k : Nat} (h : slots + (48 + 4 * (16384 - zK m0)) ≤ 7293033) (ha : a ≤ k + 4 * zW m0 T) (hk : k ≤ 48) : slots + a ≤ 7293033 := by
  have h1 := zK_max (max m0 T)
  have h2 : zW m0 T = zK (max m0 T) - zK m0 := rfl
  omega
/-- what holds at the head of the loop: class and reference stand at the same numbers -/
def zInv (G : zG) (x y o : Nat) (σ : zS) (m : Nat) : Prop := zWf σ ∧ (∃ (tb ev : Nat) (A : Nat → Nat), zCl G x tb ev A σ [] 0 m G) ∧ (∃ (ma : Nat → Nat) (th : Int32), zMod G y ma σ [] th G) ∧ ∃ w : Nat → Int64, G o = some (zOut w)
abbrev lA (s : State) : Nat → Prop := fun q => s.heap.size ≤ q
def zLw (p : Program) (s : State) (m : MethodId) (meth : Method) (c : Code) (D : va_G) (b Ln : Nat) (xs : Nat → Int32) : Prop :=
  zC p s m #[Value.ref b] meth c D (lA s) cL_law 7 RL wsL_law (some .boolean) ∧ va_X b Ln xs s s.heap ∧ b < s.heap.size ∧ zSt8 (lA s) s
abbrev lL (b x y o : Nat) (i : Int32) : List (Option Value) := [some (.ref b), some (.ref x), some (.ref y), some (.ref o), some (.int i), none, none]
theorem zInv_of {G9 G10 : zG} {x y o tb ev m : Nat} {A9 : Nat → Nat} {σ : zS} {ma : Nat → Nat} {th : Int32} {w9 : Nat → Int64} (hW : zWf σ) (hC : zCl G9 x tb ev A9 σ [] 0 m G9) (ho : G9 o = some (zOut w9)) (hM : zMod G9 y ma σ [] th G10) : zInv G10 x y o σ m :=
  ⟨hW, ⟨tb, ev, A9, hC.mv (fun a e h => hM.fr a 1 e h (by decide))⟩, ⟨ma, th, hM.mv (fun a e h => h)⟩, w9, hM.fr o 3 _ ho (by decide)⟩
