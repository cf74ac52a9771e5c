/-! the system as numbers: the rows of the reference, by field and index; events as pairs (kind, pid): 0 to 8 a signal, 9 the end, 10 the stop of a process -/
abbrev zS : Type := Nat → Nat → Int32
abbrev zEv : Type := Nat × Nat
def zu (σ : zS) (f p : Nat) (v : Int32) : zS := fun g q => if g = f then (if q = p then v else σ g q) else σ g q
theorem zu_at {σ : zS} {f p : Nat} {v : Int32} : (zu σ f p v) f = upd (σ f) p v := by funext q; simp [zu, upd]
theorem zu_off {σ : zS} {f g p : Nat} {v : Int32} (h : g ≠ f) : (zu σ f p v) g = σ g := by funext q; simp [zu, h]
theorem zu_self {σ : zS} {f p : Nat} {v : Int32} : zu σ f p v f p = v := by simp [zu]
theorem zu_id {σ : zS} {f p : Nat} : zu σ f p (σ f p) = σ := by
  funext g q
  simp only [zu]
  split
  · rename_i h; subst h
    split
    · rename_i h; subst h; rfl
    · rfl
  · rfl
def zb (P : Prop) [Decidable P] : Int32 := if P then 1 else 0
theorem zb_t {P : Prop} [Decidable P] (h : P) : zb P = 1 := if_pos h
theorem zb_f {P : Prop} [Decidable P] (h : ¬ P) : zb P = 0 := if_neg h
theorem zb_ne {P : Prop} [Decidable P] : zb P ≠ 0 ↔ P := by
  by_cases h : P
  · simp [zb, h]
  · simp [zb, h]
theorem zb_eq {P : Prop} [Decidable P] : zb P = 0 ↔ ¬ P := by
  by_cases h : P
  · simp [zb, h]
  · simp [zb, h]
theorem zb_nar {P : Prop} [Decidable P] : narrow .boolean (.int (zb P)) = .int (zb P) := by
  by_cases h : P
  · rw [zb_t h]; rfl
  · rw [zb_f h]; rfl
theorem zb_vp {P : Prop} [Decidable P] : vp_nar .boolean (zb P) = zb P := by
  by_cases h : P
  · rw [zb_t h]; rfl
  · rw [zb_f h]; rfl
theorem zb_congr {P P' : Prop} [Decidable P] [Decidable P'] (h : P ↔ P') : zb P = zb P' := by
  by_cases hp : P
  · rw [zb_t hp, zb_t (h.mp hp)]
  · rw [zb_f hp, zb_f (fun q => hp (h.mpr q))]
theorem zvt {P : Prop} [Decidable P] (h : P) : some (Value.int 1) = some (Value.int (zb P)) := by rw [zb_t h]
theorem zvf {P : Prop} [Decidable P] (h : ¬ P) : some (Value.int 0) = some (Value.int (zb P)) := by rw [zb_f h]
abbrev pn (x : Int32) : Nat := x.toNatClampNeg
abbrev zMem (σ : zS) (k : Nat) (g : Int32) : Prop := σ 0 k ≠ 0 ∧ σ 4 k = 0 ∧ σ 2 k = g
def zMemL (σ : zS) (g : Int32) (n : Nat) : List Nat := (List.range n).filter (fun k => decide (zMem σ k g))
abbrev zAtt (σ : zS) (k : Nat) : Prop := σ 0 k ≠ 0 ∧ σ 4 k = 0 ∧ k ≠ 1 ∧ σ 4 (pn (σ 1 k)) = 0 ∧ σ 3 (pn (σ 1 k)) = σ 3 k ∧ σ 2 (pn (σ 1 k)) ≠ σ 2 k
abbrev zOrphN (σ : zS) (g : Int32) (n : Nat) : Prop := ∀ k, k < n → ¬ (zAtt σ k ∧ σ 2 k = g)
abbrev zOrph (σ : zS) (g : Int32) : Prop := zOrphN σ g 41
abbrev zStopd (σ : zS) (g : Int32) (n : Nat) : Prop := ¬ ∀ k, k < n → ¬ (zMem σ k g ∧ σ 5 k ≠ 0)
def zSends (σ : zS) (g : Int32) (s n : Nat) : List zEv := (zMemL σ g n).map (fun k => (s, k))
def zHeir : Nat → zS → Nat → Nat
  | 0, _, _ => 1
  | n + 1, σ, q => if q = 1 then 1 else if σ 13 q ≠ 0 ∧ σ 4 q = 0 then q else zHeir n σ (pn (σ 1 q))
def zDie (σ : zS) (p : Nat) (how v : Int32) : zS := zu (zu (zu (zu (zu (zu σ 4 p 1) 14 p how) 15 p v) 11 p 0) 6 p 0) 5 p 0
def zHandN (σ : zS) (p h n : Nat) : zS := fun f k => if f = 1 ∧ k < n ∧ σ 0 k ≠ 0 ∧ σ 1 k = nI p then nI h else σ f k
abbrev zTm (σ : zS) (p : Nat) : Prop := σ 3 p = nI p ∧ σ 21 0 = nI p
def zFreeT (σ : zS) : zS := zu (zu σ 21 0 (-1)) 22 0 (-1)
def zT2 (σ : zS) (p : Nat) (how v : Int32) : zS := zHandN (zDie σ p how v) p (zHeir 40 (zDie σ p how v) (pn (σ 1 p))) 41
def zT3 (σ : zS) (p : Nat) (how v : Int32) : zS := if zTm σ p then zFreeT (zT2 σ p how v) else zT2 σ p how v
abbrev zWasZ (σ : zS) (p : Nat) (k : Nat) : Prop := σ 0 k ≠ 0 ∧ σ 1 k = nI p ∧ σ 4 k ≠ 0
def zTq1 (σ : zS) (p : Nat) (how v : Int32) : List zEv := if zTm σ p then zSends (zT2 σ p how v) (σ 22 0) 0 41 else []
def zTq2 (σ : zS) (p n : Nat) : List zEv := ((List.range n).filter (fun k => decide (zWasZ σ p k))).map (fun k => (9, k))
abbrev zNewO (σ σ3 : zS) (g : Nat) : Prop := ¬ zOrph σ (nI g) ∧ zOrph σ3 (nI g) ∧ zStopd σ3 (nI g) 41
def zTq3 (σ σ3 : zS) (n : Nat) : List zEv := (List.range n).flatMap (fun g => if zNewO σ σ3 g then zSends σ3 (nI g) 0 41 ++ zSends σ3 (nI g) 7 41 else [])
def zTq (σ : zS) (p : Nat) (how v : Int32) : List zEv := zTq1 σ p how v ++ (zTq2 σ p 41 ++ (zTq3 σ (zT3 σ p how v) 41 ++ [(9, p)]))
def zTerm (x : zS × List zEv) (p : Nat) (how v : Int32) : zS × List zEv := (zT3 x.1 p how v, x.2 ++ zTq x.1 p how v)
abbrev zKid (σ : zS) (p k : Nat) : Prop := σ 0 k ≠ 0 ∧ σ 1 k = nI p ∧ (σ 7 p = -1 ∨ σ 7 p = nI k)
abbrev zRep (σ : zS) (p k : Nat) : Prop := zKid σ p k ∧ (σ 4 k ≠ 0 ∨ (σ 8 p ≠ 0 ∧ σ 5 k ≠ 0 ∧ σ 17 k ≠ 0))
def zEnds (σ : zS) (p : Nat) (r c v : Int32) : zS := zu (zu (zu (zu σ 6 p 0) 18 p r) 19 p c) 20 p v
def zBest (σ : zS) (p n : Nat) : Option Nat := (List.range n).find? (fun k => decide (zRep σ p k))
def zCheck (σ : zS) (p : Nat) : zS := if σ 6 p = 0 ∨ σ 5 p ≠ 0 then σ else match zBest σ p 41 with
  | some k => if σ 4 k ≠ 0 then zu (zEnds σ p (σ 14 k) (nI k) (σ 15 k)) 0 k 0 else zu (zEnds σ p 2 (nI k) (σ 16 k)) 17 k 0
  | none => if ∀ k, k < 41 → ¬ zKid σ p k then zEnds σ p 4 (-1) (-1) else σ
def zStop (x : zS × List zEv) (p s : Nat) : zS × List zEv := (zu (zu (zu x.1 5 p 1) 16 p (nI s)) 17 p 1, x.2 ++ [(10, p)])
abbrev zAct (σ : zS) (p s : Nat) : Int32 := σ 9 (9 * p + s)
def zSh (s : Nat) : Int32 := 1 <<< (nI s &&& 31)
def zClr (x : Int32) (s : Nat) : Int32 := x &&& (zSh s ^^^ (-1))
def zCatch (σ : zS) (p : Nat) : zS := if σ 6 p ≠ 0 then zEnds (zu σ 12 p (σ 12 p + 1)) p 3 (-1) (-1) else zu σ 12 p (σ 12 p + 1)
def zEff (x : zS × List zEv) (p s : Nat) : zS × List zEv :=
  if zAct x.1 p s = 2 then (zCatch x.1 p, x.2)
  else if zAct x.1 p s = 0 ∧ s = 6 then (if zOrph x.1 (x.1 2 p) then x else zStop x p 6)
  else if zAct x.1 p s = 0 then zTerm x p 1 (nI s) else x
def zOpen (σ : zS) (p : Nat) : Int32 := σ 11 p &&& (σ 10 p ^^^ (-1))
def zDstep (p : Nat) (x : zS × List zEv) (s : Nat) : zS × List zEv := if x.1 4 p = 0 ∧ x.1 5 p = 0 ∧ zOpen x.1 p &&& zSh s ≠ 0 then zEff (zu x.1 11 p (zClr (x.1 11 p) s), x.2) p s else x
def zDfold (p : Nat) (x : zS × List zEv) (n : Nat) : zS × List zEv := (List.range n).foldl (zDstep p) x
def zDel (x : zS × List zEv) (p : Nat) : zS × List zEv := (zCheck (zDfold p x 9).1 p, (zDfold p x 9).2)
abbrev zHeed (σ : zS) (p s : Nat) : Prop := zAct σ p s = 2 ∨ (zAct σ p s = 0 ∧ s ≠ 4 ∧ s ≠ 7)
def zCont (σ : zS) (p s : Nat) : zS := if s = 7 then zu (zu (zu σ 11 p (zClr (σ 11 p) 6)) 17 p (zb (σ 17 p ≠ 0 ∧ σ 5 p = 0))) 5 p 0 else if s = 5 ∨ s = 6 then zu σ 11 p (zClr (σ 11 p) 7) else σ
def zTake (x : zS × List zEv) (p s : Nat) : zS × List zEv :=
  if s = 2 then zTerm x p 1 2 else if s = 5 then (if x.1 5 p = 0 then zStop x p 5 else x) else if zHeed x.1 p s then (zu x.1 11 p (x.1 11 p ||| zSh s), x.2) else x
def zComes (x : zS × List zEv) (p s : Nat) : zS × List zEv := if x.1 0 p = 0 ∨ x.1 4 p ≠ 0 ∨ p = 1 then x else zDel (zTake (zCont x.1 p s, x.2) p s) p
def zTell (x : zS × List zEv) (j : Nat) : zS × List zEv := if j = 1 then x else (zCheck x.1 j, x.2 ++ [(4, j)])
def zOver (x : zS × List zEv) (p : Nat) : zS × List zEv := if x.1 0 p = 0 then x else
  zTell (if pn (x.1 1 p) = 1 ∨ zAct x.1 (pn (x.1 1 p)) 4 = 1 then zu x.1 0 p 0 else x.1, x.2) (pn (x.1 1 p))
def zStands (x : zS × List zEv) (p : Nat) : zS × List zEv := if x.1 0 p ≠ 0 ∧ x.1 5 p ≠ 0 then zTell x (pn (x.1 1 p)) else x
def zEvent (x : zS × List zEv) (e : zEv) : zS × List zEv := if e.1 = 9 then zOver x e.2 else if e.1 = 10 then zStands x e.2 else zComes x e.2 e.1
def zGo : Nat → zS → List zEv → zS
  | 0, σ, _ => σ
  | _ + 1, σ, [] => σ
  | n + 1, σ, e :: q => zGo n (zEvent (σ, q) e).1 (zEvent (σ, q) e).2
/-- how many events a run takes in all -/
def zCount : Nat → zS → List zEv → Nat
  | 0, _, _ => 0
  | _ + 1, _, [] => 0
  | n + 1, σ, e :: q => zCount n (zEvent (σ, q) e).1 (zEvent (σ, q) e).2 + 1
/-- what holds between calls, and all through the events -/
def zWf (σ : zS) : Prop :=
  (∀ k, σ 0 k ≠ 0 → 1 ≤ k ∧ k < 41 ∧ (∃ g, σ 2 k = nI g ∧ 1 ≤ g ∧ g < 41) ∧ (∃ g, σ 3 k = nI g ∧ 1 ≤ g ∧ g < 41) ∧ (∀ s, s < 9 → σ 9 (9 * k + s) = 0 ∨ σ 9 (9 * k + s) = 1 ∨ σ 9 (9 * k + s) = 2)) ∧
  (∀ k, σ 0 k ≠ 0 → k ≠ 1 → ∃ j, σ 1 k = nI j ∧ 1 ≤ j ∧ j < 41 ∧ j ≠ k ∧ σ 0 j ≠ 0 ∧ σ 4 j = 0) ∧
  (∀ k, σ 0 k ≠ 0 → σ 4 k ≠ 0 → σ 6 k = 0 ∧ σ 5 k = 0 ∧ (σ 14 k = 0 ∨ σ 14 k = 1)) ∧
  (∃ c : Nat → Nat, ∀ k, σ 0 k ≠ 0 → k ≠ 1 → c (pn (σ 1 k)) < c k) ∧
  (σ 0 1 = 1 ∧ σ 1 1 = -1 ∧ σ 2 1 = 1 ∧ σ 3 1 = 1 ∧ σ 4 1 = 0 ∧ σ 5 1 = 0 ∧ σ 6 1 = 0 ∧ σ 13 1 = 0) ∧
  (∀ k, (σ 0 k = 0 ∨ σ 0 k = 1) ∧ (σ 4 k = 0 ∨ σ 4 k = 1) ∧ (σ 5 k = 0 ∨ σ 5 k = 1) ∧ (σ 6 k = 0 ∨ σ 6 k = 1) ∧ (σ 8 k = 0 ∨ σ 8 k = 1) ∧ (σ 13 k = 0 ∨ σ 13 k = 1) ∧ (σ 17 k = 0 ∨ σ 17 k = 1)) ∧
  (∀ k, σ 11 k &&& 511 = σ 11 k) ∧
  (σ 21 0 = -1 ∨ ∃ g, σ 21 0 = nI g ∧ 1 ≤ g ∧ g < 41)
abbrev zEvOk (e : zEv) : Prop := e.1 ≤ 10 ∧ 1 ≤ e.2 ∧ e.2 < 41 ∧ (9 ≤ e.1 → e.2 ≠ 1)
