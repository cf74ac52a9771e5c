/-! the processes of the system's own: a cell by its parent and its numbers -/
abbrev zPr (par : Value) (f : Nat → Int32) : List Value := [.int (f 0), par, .int (f 2), .int (f 3), .int (f 4), .int (f 5), .int (f 6), .int (f 7), .int (f 8), .int (f 9), .int (f 10), .int (f 11), .int (f 12), .int (f 13), .int (f 14), .int (f 15), .int (f 16), .int (f 17), .int (f 18), .int (f 19)]
theorem zU_zU {G : zG} {a : Nat} {x y : Nat × zE} : zU (zU G a x) a y = zU G a y := by
  funext q
  simp only [zU]
  split <;> rfl
theorem zU_id {G : zG} {a : Nat} {x : Nat × zE} (h : G a = some x) : zU G a x = G := by
  funext q
  simp only [zU]
  split
  · rename_i h1; rw [h1, h]
  · rfl
theorem zPr_set {par : Value} {f : Nat → Int32} {x : Int32} : ∀ k : Nat, k ≠ 1 → k < 20 → (zPr par f).set k (.int x) = zPr par (upd f k x)
  | 0, _, _ => rfl
  | 1, h, _ => absurd rfl h
  | 2, _, _ => rfl
  | 3, _, _ => rfl
  | 4, _, _ => rfl
  | 5, _, _ => rfl
  | 6, _, _ => rfl
  | 7, _, _ => rfl
  | 8, _, _ => rfl
  | 9, _, _ => rfl
  | 10, _, _ => rfl
  | 11, _, _ => rfl
  | 12, _, _ => rfl
  | 13, _, _ => rfl
  | 14, _, _ => rfl
  | 15, _, _ => rfl
  | 16, _, _ => rfl
  | 17, _, _ => rfl
  | 18, _, _ => rfl
  | 19, _, _ => rfl
  | k + 20, _, h => absurd h (by omega)
section ZPR
variable {p : Program} {l : Launch} {e : Env} {R : Room} {s : State} {m : MethodId} {args : Array Value} {below : List Frame} {meth : Method} {c : Code} {D : va_G} {A : Nat → Prop} {cells slots : Nat} {Q : State → Prop} {G : zG} {pc : Nat} {L : List (Option Value)} {st : List Value}
variable {cc : ByteArray} {nL : Nat} {own : String} {Ts : List Cond} {ret : Option FieldType}
theorem zV.eqG {G' : zG} (h : G = G') (kk : zV p l e R s m args below meth c D A cells slots Q G' pc L st) : zV p l e R s m args below meth c D A cells slots Q G pc L st := h ▸ kk
theorem TX1_own (k : Nat) : (TX1 k).1 = "Signalpost$Proc" := by
  unfold TX1
  split <;> rfl
theorem TX1_fin : ∀ k : Nat, k ≠ 0 → k < 20 → (TX1 k).2.2.2 = false
  | 0, h, _ => absurd rfl h
  | 1, _, _ => rfl
  | 2, _, _ => rfl
  | 3, _, _ => rfl
  | 4, _, _ => rfl
  | 5, _, _ => rfl
  | 6, _, _ => rfl
  | 7, _, _ => rfl
  | 8, _, _ => rfl
  | 9, _, _ => rfl
  | 10, _, _ => rfl
  | 11, _, _ => rfl
  | 12, _, _ => rfl
  | 13, _, _ => rfl
  | 14, _, _ => rfl
  | 15, _, _ => rfl
  | 16, _, _ => rfl
  | 17, _, _ => rfl
  | 18, _, _ => rfl
  | 19, _, _ => rfl
  | k + 20, _, h => absurd h (by omega)
/-- a number of a process is written -/
theorem zz_pput (C : zC p s m args meth c D A cc nL own Ts ret) (hin : ∀ w ∈ u_ws RX1 TX1 20, w ∈ Ts) {index a t : Nat} {par : Value} {f : Nat → Int32} {x : Int32} (k : Nat) (h0 : k ≠ 0) (h1 : k ≠ 1) (hk : k < 20) (hlink : Cond.fieldLink own index "Signalpost$Proc" (TX1 k).2.1 (TX1 k).2.2.1 ∈ Ts) (hdg : decode cc pc = .ok (.putfield index, 3)) (hn : narrow (tyX1 k) (.int x) = .int x) (hfit : fits (tyX1 k) (.int x) = true)
    (kk : zV p l e R s m args below meth c D A cells slots Q (zU G a (t, .inr (1, zPr par (upd f k x)))) (pc + 3) L st) : zV p l e R s m args below meth c D A cells slots Q (zU G a (t, .inr (1, zPr par f))) pc L (.int x :: .ref a :: st) := by
  refine zz_put C hin tyX1 tyX1_ok nmX1 (ci := 1) rfl k hk hlink (TX1_own k) (TX1_fin k h0 hk) hdg zU_self hn hfit hk ?_
  rw [zU_zU, zPr_set k h1 hk]
  exact kk
/-- the parent of a process is written -/
theorem zz_pputR (C : zC p s m args meth c D A cc nL own Ts ret) (hin : ∀ w ∈ u_ws RX1 TX1 20, w ∈ Ts) {index a t b : Nat} {par : Value} {f : Nat → Int32} (hlink : Cond.fieldLink own index "Signalpost$Proc" (TX1 1).2.1 (TX1 1).2.2.1 ∈ Ts) (hdg : decode cc pc = .ok (.putfield index, 3))
    (kk : zV p l e R s m args below meth c D A cells slots Q (zU G a (t, .inr (1, zPr (.ref b) f))) (pc + 3) L st) : zV p l e R s m args below meth c D A cells slots Q (zU G a (t, .inr (1, zPr par f))) pc L (.ref b :: .ref a :: st) := by
  refine zz_put C hin tyX1 tyX1_ok nmX1 (ci := 1) rfl 1 (by decide) hlink (TX1_own 1) rfl hdg zU_self rfl rfl (Nat.le_of_ble_eq_true rfl) ?_
  rw [zU_zU]
  exact kk
end ZPR
/-- what a process does with a signal, by its cell -/
def zActF (f : Nat → Int32) (x : Int32) : Int32 := if f 13 >>> (x &&& 31) &&& 1 = 1 then 2 else if f 12 >>> (x &&& 31) &&& 1 = 1 then 1 else 0
def zCond (f : Nat → Int32) : Int32 := if f 5 ≠ 0 then 3 else if f 6 ≠ 0 then 2 else if f 7 ≠ 0 then 1 else 0
abbrev zHeedF (f : Nat → Int32) (x : Int32) : Prop := zActF f x = 2 ∨ (zActF f x = 0 ∧ x ≠ 4 ∧ x ≠ 7)
def zForgF (f : Nat → Int32) (x : Int32) : Nat → Int32 := upd f 15 (f 15 &&& ((1 <<< (x &&& 31)) ^^^ (-1)))
def zEndF (f : Nat → Int32) (r c v : Int32) : Nat → Int32 := upd (upd (upd (upd f 7 0) 17 r) 18 c) 19 v
def zZomF (f : Nat → Int32) (h v : Int32) : Nat → Int32 := upd (upd (upd (upd (upd (upd f 5 1) 6 0) 7 0) 15 0) 10 h) 11 v
def zCatF (f : Nat → Int32) : Nat → Int32 := if f 7 ≠ 0 then zEndF (upd f 16 (f 16 + 1)) 3 (-1) (-1) else upd f 16 (f 16 + 1)
def zResF (f : Nat → Int32) : Nat → Int32 := if f 6 ≠ 0 then upd (upd f 6 0) 10 (-1) else f
def zInhF (f g : Nat → Int32) : Nat → Int32 := upd (upd (upd (upd (upd f 2 (g 2)) 3 (g 3)) 12 (g 12)) 13 (g 13)) 14 (g 14)
def zNewF (x : Int32) : Nat → Int32 := upd (upd (upd (upd (upd (upd (upd (upd (upd (fun _ => 0) 8 (-1)) 10 (-1)) 11 (-1)) 17 (-1)) 18 (-1)) 19 (-1)) 0 x) 2 x) 3 x
def zChgF0 (f : Nat → Int32) (x a : Int32) : Nat → Int32 := upd f 12 (if a = 1 then f 12 ||| (1 <<< (x &&& 31)) else f 12 &&& ((1 <<< (x &&& 31)) ^^^ (-1)))
def zChgF1 (f : Nat → Int32) (x a : Int32) : Nat → Int32 := upd (zChgF0 f x a) 13 (if a = 2 then f 13 ||| (1 <<< (x &&& 31)) else f 13 &&& ((1 <<< (x &&& 31)) ^^^ (-1)))
def zChgF (f : Nat → Int32) (x a : Int32) : Nat → Int32 := if zHeedF (zChgF1 f x a) x then zChgF1 f x a else zForgF (zChgF1 f x a) x
theorem fl_X1_condition_52 : Cond.fieldLink RX1 52 "Signalpost$Proc" "zombie" "Z" ∈ wsX1_condition := by decide +kernel
theorem fl_X1_condition_56 : Cond.fieldLink RX1 56 "Signalpost$Proc" "stopped" "Z" ∈ wsX1_condition := by decide +kernel
theorem fl_X1_condition_59 : Cond.fieldLink RX1 59 "Signalpost$Proc" "waiting" "Z" ∈ wsX1_condition := by decide +kernel
theorem in_X1_condition_X1 : ∀ w ∈ u_ws RX1 TX1 20, w ∈ wsX1_condition := by decide +kernel
set_option maxHeartbeats 4000000 in
set_option maxRecDepth 100000 in
theorem c_X1_condition (l : Launch) (D : va_G) {G : zG} {a t : Nat} {par : Value} {f : Nat → Int32} (hx : G a = some (t, .inr (1, zPr par f))) : zMet D l yX1_condition wsX1_condition ({ frames := 0, cells := 0, slots := 0, locals := 0 } : Room) [.ref a] G (fun v G9 => v = some (.int (zCond f)) ∧ G9 = G) := by
  refine zMet_of (cc := cX1_condition) (maxL := 1) (ret := (some .int)) (by decide) rfl (Nat.le_of_ble_eq_true rfl) ?_
  intro p e s m args below meth c C hmn
  refine zz_aload_n (pc := 0) C dX1_condition_0 rfl ?_
  refine zz_get (pc := 1) C in_X1_condition_X1 (ci := 1) rfl 5 (by decide) (fl_X1_condition_52) rfl dX1_condition_1 hx rfl ?_
  refine zz_if_eq (pc := 4) C (tgt := 9) dX1_condition_4 (by decide) (fun hc4 => ?_) (fun hc4 => ?_)
  · refine zz_aload_n (pc := 9) C dX1_condition_9 rfl ?_
    refine zz_get (pc := 10) C in_X1_condition_X1 (ci := 1) rfl 6 (by decide) (fl_X1_condition_56) rfl dX1_condition_10 hx rfl ?_
    refine zz_if_eq (pc := 13) C (tgt := 18) dX1_condition_13 (by decide) (fun hc13 => ?_) (fun hc13 => ?_)
    · refine zz_aload_n (pc := 18) C dX1_condition_18 rfl ?_
      refine zz_get (pc := 19) C in_X1_condition_X1 (ci := 1) rfl 7 (by decide) (fl_X1_condition_59) rfl dX1_condition_19 hx rfl ?_
      refine zz_if_eq (pc := 22) C (tgt := 29) dX1_condition_22 (by decide) (fun hc22 => ?_) (fun hc22 => ?_)
      · refine zz_iconst (pc := 29) C (v := 0) (by decide) dX1_condition_29 ?_
        exact zz_ireturn (pc := 30) C dX1_condition_30 rfl (Nat.le_refl _) (Nat.le_refl _) ⟨by simp_all [zCond]; try rfl, rfl⟩
      · refine zz_iconst (pc := 25) C (v := 1) (by decide) dX1_condition_25 ?_
        refine zz_goto (pc := 26) C (tgt := 30) dX1_condition_26 (by decide) ?_
        exact zz_ireturn (pc := 30) C dX1_condition_30 rfl (Nat.le_refl _) (Nat.le_refl _) ⟨by simp_all [zCond]; try rfl, rfl⟩
    · refine zz_iconst (pc := 16) C (v := 2) (by decide) dX1_condition_16 ?_
      exact zz_ireturn (pc := 17) C dX1_condition_17 rfl (Nat.le_refl _) (Nat.le_refl _) ⟨by simp_all [zCond]; try rfl, rfl⟩
  · refine zz_iconst (pc := 7) C (v := 3) (by decide) dX1_condition_7 ?_
    exact zz_ireturn (pc := 8) C dX1_condition_8 rfl (Nat.le_refl _) (Nat.le_refl _) ⟨by simp_all [zCond]; try rfl, rfl⟩
theorem fl_X1_isMemberOf_33 : Cond.fieldLink RX1 33 "Signalpost$Proc" "group" "I" ∈ wsX1_isMemberOf := by decide +kernel
theorem fl_X1_isMemberOf_52 : Cond.fieldLink RX1 52 "Signalpost$Proc" "zombie" "Z" ∈ wsX1_isMemberOf := by decide +kernel
theorem in_X1_isMemberOf_X1 : ∀ w ∈ u_ws RX1 TX1 20, w ∈ wsX1_isMemberOf := by decide +kernel
set_option maxHeartbeats 4000000 in
set_option maxRecDepth 100000 in
theorem c_X1_isMemberOf (l : Launch) (D : va_G) {G : zG} {a t : Nat} {par : Value} {f : Nat → Int32} {n : Int32} (hx : G a = some (t, .inr (1, zPr par f))) : zMet D l yX1_isMemberOf wsX1_isMemberOf ({ frames := 0, cells := 0, slots := 0, locals := 0 } : Room) [.ref a, .int n] G (fun v G9 => v = some (.int (zb (f 2 = n ∧ f 5 = 0))) ∧ G9 = G) := by
  refine zMet_of (cc := cX1_isMemberOf) (maxL := 2) (ret := (some .boolean)) (by decide) rfl (Nat.le_of_ble_eq_true rfl) ?_
  intro p e s m args below meth c C hmn
  refine zz_aload_n (pc := 0) C dX1_isMemberOf_0 rfl ?_
  refine zz_get (pc := 1) C in_X1_isMemberOf_X1 (ci := 1) rfl 2 (by decide) (fl_X1_isMemberOf_33) rfl dX1_isMemberOf_1 hx rfl ?_
  refine zz_iload_n (pc := 4) C dX1_isMemberOf_4 rfl ?_
  refine zz_icmp_ne (pc := 5) C (tgt := 19) dX1_isMemberOf_5 (by decide) (fun hc5 => ?_) (fun hc5 => ?_)
  · refine zz_iconst (pc := 19) C (v := 0) (by decide) dX1_isMemberOf_19 ?_
    exact zz_ireturn (pc := 20) C dX1_isMemberOf_20 (by decide) (Nat.le_refl _) (Nat.le_refl _) ⟨by first | exact zvt (by simp_all) | exact zvf (by simp_all), rfl⟩
  · refine zz_aload_n (pc := 8) C dX1_isMemberOf_8 rfl ?_
    refine zz_get (pc := 9) C in_X1_isMemberOf_X1 (ci := 1) rfl 5 (by decide) (fl_X1_isMemberOf_52) rfl dX1_isMemberOf_9 hx rfl ?_
    refine zz_if_ne (pc := 12) C (tgt := 19) dX1_isMemberOf_12 (by decide) (fun hc12 => ?_) (fun hc12 => ?_)
    · refine zz_iconst (pc := 19) C (v := 0) (by decide) dX1_isMemberOf_19 ?_
      exact zz_ireturn (pc := 20) C dX1_isMemberOf_20 (by decide) (Nat.le_refl _) (Nat.le_refl _) ⟨by first | exact zvt (by simp_all) | exact zvf (by simp_all), rfl⟩
    · refine zz_iconst (pc := 15) C (v := 1) (by decide) dX1_isMemberOf_15 ?_
      refine zz_goto (pc := 16) C (tgt := 20) dX1_isMemberOf_16 (by decide) ?_
      exact zz_ireturn (pc := 20) C dX1_isMemberOf_20 (by decide) (Nat.le_refl _) (Nat.le_refl _) ⟨by first | exact zvt (by simp_all) | exact zvf (by simp_all), rfl⟩
theorem fl_X1_leadsSession_30 : Cond.fieldLink RX1 30 "Signalpost$Proc" "pid" "I" ∈ wsX1_leadsSession := by decide +kernel
theorem fl_X1_leadsSession_36 : Cond.fieldLink RX1 36 "Signalpost$Proc" "session" "I" ∈ wsX1_leadsSession := by decide +kernel
theorem in_X1_leadsSession_X1 : ∀ w ∈ u_ws RX1 TX1 20, w ∈ wsX1_leadsSession := by decide +kernel
set_option maxHeartbeats 4000000 in
set_option maxRecDepth 100000 in
theorem c_X1_leadsSession (l : Launch) (D : va_G) {G : zG} {a t : Nat} {par : Value} {f : Nat → Int32} (hx : G a = some (t, .inr (1, zPr par f))) : zMet D l yX1_leadsSession wsX1_leadsSession ({ frames := 0, cells := 0, slots := 0, locals := 0 } : Room) [.ref a] G (fun v G9 => v = some (.int (zb (f 0 = f 3))) ∧ G9 = G) := by
  refine zMet_of (cc := cX1_leadsSession) (maxL := 1) (ret := (some .boolean)) (by decide) rfl (Nat.le_of_ble_eq_true rfl) ?_
  intro p e s m args below meth c C hmn
  refine zz_aload_n (pc := 0) C dX1_leadsSession_0 rfl ?_
  refine zz_get (pc := 1) C in_X1_leadsSession_X1 (ci := 1) rfl 0 (by decide) (fl_X1_leadsSession_30) rfl dX1_leadsSession_1 hx rfl ?_
  refine zz_aload_n (pc := 4) C dX1_leadsSession_4 rfl ?_
  refine zz_get (pc := 5) C in_X1_leadsSession_X1 (ci := 1) rfl 3 (by decide) (fl_X1_leadsSession_36) rfl dX1_leadsSession_5 hx rfl ?_
  refine zz_icmp_ne (pc := 8) C (tgt := 15) dX1_leadsSession_8 (by decide) (fun hc8 => ?_) (fun hc8 => ?_)
  · refine zz_iconst (pc := 15) C (v := 0) (by decide) dX1_leadsSession_15 ?_
    exact zz_ireturn (pc := 16) C dX1_leadsSession_16 (by decide) (Nat.le_refl _) (Nat.le_refl _) ⟨by first | exact zvt (by simp_all) | exact zvf (by simp_all), rfl⟩
  · refine zz_iconst (pc := 11) C (v := 1) (by decide) dX1_leadsSession_11 ?_
    refine zz_goto (pc := 12) C (tgt := 16) dX1_leadsSession_12 (by decide) ?_
    exact zz_ireturn (pc := 16) C dX1_leadsSession_16 (by decide) (Nat.le_refl _) (Nat.le_refl _) ⟨by first | exact zvt (by simp_all) | exact zvf (by simp_all), rfl⟩
theorem fl_X1_actionFor_46 : Cond.fieldLink RX1 46 "Signalpost$Proc" "catches" "I" ∈ wsX1_actionFor := by decide +kernel
theorem fl_X1_actionFor_43 : Cond.fieldLink RX1 43 "Signalpost$Proc" "ignores" "I" ∈ wsX1_actionFor := by decide +kernel
theorem in_X1_actionFor_X1 : ∀ w ∈ u_ws RX1 TX1 20, w ∈ wsX1_actionFor := by decide +kernel
set_option maxHeartbeats 4000000 in
set_option maxRecDepth 100000 in
theorem c_X1_actionFor (l : Launch) (D : va_G) {G : zG} {a t : Nat} {par : Value} {f : Nat → Int32} {x : Int32} (hx : G a = some (t, .inr (1, zPr par f))) : zMet D l yX1_actionFor wsX1_actionFor ({ frames := 0, cells := 0, slots := 0, locals := 0 } : Room) [.ref a, .int x] G (fun v G9 => v = some (.int (zActF f x)) ∧ G9 = G) := by
  refine zMet_of (cc := cX1_actionFor) (maxL := 2) (ret := (some .int)) (by decide) rfl (Nat.le_of_ble_eq_true rfl) ?_
  intro p e s m args below meth c C hmn
  refine zz_aload_n (pc := 0) C dX1_actionFor_0 rfl ?_
  refine zz_get (pc := 1) C in_X1_actionFor_X1 (ci := 1) rfl 13 (by decide) (fl_X1_actionFor_46) rfl dX1_actionFor_1 hx rfl ?_
  refine zz_iload_n (pc := 4) C dX1_actionFor_4 rfl ?_
  refine zz_ishr (pc := 5) C dX1_actionFor_5 ?_
  refine zz_iconst (pc := 6) C (v := 1) (by decide) dX1_actionFor_6 ?_
  refine zz_iand (pc := 7) C dX1_actionFor_7 ?_
  refine zz_iconst (pc := 8) C (v := 1) (by decide) dX1_actionFor_8 ?_
  refine zz_icmp_ne (pc := 9) C (tgt := 14) dX1_actionFor_9 (by decide) (fun hc9 => ?_) (fun hc9 => ?_)
  · refine zz_aload_n (pc := 14) C dX1_actionFor_14 rfl ?_
    refine zz_get (pc := 15) C in_X1_actionFor_X1 (ci := 1) rfl 12 (by decide) (fl_X1_actionFor_43) rfl dX1_actionFor_15 hx rfl ?_
    refine zz_iload_n (pc := 18) C dX1_actionFor_18 rfl ?_
    refine zz_ishr (pc := 19) C dX1_actionFor_19 ?_
    refine zz_iconst (pc := 20) C (v := 1) (by decide) dX1_actionFor_20 ?_
    refine zz_iand (pc := 21) C dX1_actionFor_21 ?_
    refine zz_iconst (pc := 22) C (v := 1) (by decide) dX1_actionFor_22 ?_
    refine zz_icmp_ne (pc := 23) C (tgt := 30) dX1_actionFor_23 (by decide) (fun hc23 => ?_) (fun hc23 => ?_)
    · refine zz_iconst (pc := 30) C (v := 0) (by decide) dX1_actionFor_30 ?_
      exact zz_ireturn (pc := 31) C dX1_actionFor_31 rfl (Nat.le_refl _) (Nat.le_refl _) ⟨by simp_all [zActF]; try rfl, rfl⟩
    · refine zz_iconst (pc := 26) C (v := 1) (by decide) dX1_actionFor_26 ?_
      refine zz_goto (pc := 27) C (tgt := 31) dX1_actionFor_27 (by decide) ?_
      exact zz_ireturn (pc := 31) C dX1_actionFor_31 rfl (Nat.le_refl _) (Nat.le_refl _) ⟨by simp_all [zActF]; try rfl, rfl⟩
  · refine zz_iconst (pc := 12) C (v := 2) (by decide) dX1_actionFor_12 ?_
    exact zz_ireturn (pc := 13) C dX1_actionFor_13 rfl (Nat.le_refl _) (Nat.le_refl _) ⟨by simp_all [zActF]; try rfl, rfl⟩
theorem fl_X1_attachesItsGroup_52 : Cond.fieldLink RX1 52 "Signalpost$Proc" "zombie" "Z" ∈ wsX1_attachesItsGroup := by decide +kernel
theorem fl_X1_attachesItsGroup_39 : Cond.fieldLink RX1 39 "Signalpost$Proc" "parent" "LSignalpost$Proc;" ∈ wsX1_attachesItsGroup := by decide +kernel
theorem fl_X1_attachesItsGroup_36 : Cond.fieldLink RX1 36 "Signalpost$Proc" "session" "I" ∈ wsX1_attachesItsGroup := by decide +kernel
theorem fl_X1_attachesItsGroup_33 : Cond.fieldLink RX1 33 "Signalpost$Proc" "group" "I" ∈ wsX1_attachesItsGroup := by decide +kernel
theorem in_X1_attachesItsGroup_X1 : ∀ w ∈ u_ws RX1 TX1 20, w ∈ wsX1_attachesItsGroup := by decide +kernel
set_option maxHeartbeats 4000000 in
set_option maxRecDepth 100000 in
theorem c_X1_attachesItsGroupN (l : Launch) (D : va_G) {G : zG} {a t b tb : Nat} {pb : Value} {f g : Nat → Int32} (hx : G a = some (t, .inr (1, zPr .null f))) : zMet D l yX1_attachesItsGroup wsX1_attachesItsGroup ({ frames := 0, cells := 0, slots := 0, locals := 0 } : Room) [.ref a] G (fun v G9 => v = some (.int 0) ∧ G9 = G) := by
  refine zMet_of (cc := cX1_attachesItsGroup) (maxL := 1) (ret := (some .boolean)) (by decide) rfl (Nat.le_of_ble_eq_true rfl) ?_
  intro p e s m args below meth c C hmn
  refine zz_aload_n (pc := 0) C dX1_attachesItsGroup_0 rfl ?_
  refine zz_get (pc := 1) C in_X1_attachesItsGroup_X1 (ci := 1) rfl 5 (by decide) (fl_X1_attachesItsGroup_52) rfl dX1_attachesItsGroup_1 hx rfl ?_
  refine zz_if_ne (pc := 4) C (tgt := 56) dX1_attachesItsGroup_4 (by decide) (fun hc4 => ?_) (fun hc4 => ?_)
  · refine zz_iconst (pc := 56) C (v := 0) (by decide) dX1_attachesItsGroup_56 ?_
    exact zz_ireturn (pc := 57) C dX1_attachesItsGroup_57 (by decide) (Nat.le_refl _) (Nat.le_refl _) ⟨rfl, rfl⟩
  · refine zz_aload_n (pc := 7) C dX1_attachesItsGroup_7 rfl ?_
    refine zz_get (pc := 8) C in_X1_attachesItsGroup_X1 (ci := 1) rfl 1 (by decide) (fl_X1_attachesItsGroup_39) rfl dX1_attachesItsGroup_8 hx rfl ?_
    refine zz_ifnullN (pc := 11) C (tgt := 56) dX1_attachesItsGroup_11 (by decide) ?_
    refine zz_iconst (pc := 56) C (v := 0) (by decide) dX1_attachesItsGroup_56 ?_
    exact zz_ireturn (pc := 57) C dX1_attachesItsGroup_57 (by decide) (Nat.le_refl _) (Nat.le_refl _) ⟨rfl, rfl⟩
set_option maxHeartbeats 4000000 in
set_option maxRecDepth 100000 in
theorem c_X1_attachesItsGroup (l : Launch) (D : va_G) {G : zG} {a t b tb : Nat} {pb : Value} {f g : Nat → Int32} (hx : G a = some (t, .inr (1, zPr (.ref b) f))) (hy : G b = some (tb, .inr (1, zPr pb g))) : zMet D l yX1_attachesItsGroup wsX1_attachesItsGroup ({ frames := 0, cells := 0, slots := 0, locals := 0 } : Room) [.ref a] G (fun v G9 => v = some (.int (zb (f 5 = 0 ∧ g 5 = 0 ∧ g 3 = f 3 ∧ g 2 ≠ f 2))) ∧ G9 = G) := by
  refine zMet_of (cc := cX1_attachesItsGroup) (maxL := 1) (ret := (some .boolean)) (by decide) rfl (Nat.le_of_ble_eq_true rfl) ?_
  intro p e s m args below meth c C hmn
  refine zz_aload_n (pc := 0) C dX1_attachesItsGroup_0 rfl ?_
  refine zz_get (pc := 1) C in_X1_attachesItsGroup_X1 (ci := 1) rfl 5 (by decide) (fl_X1_attachesItsGroup_52) rfl dX1_attachesItsGroup_1 hx rfl ?_
  refine zz_if_ne (pc := 4) C (tgt := 56) dX1_attachesItsGroup_4 (by decide) (fun hc4 => ?_) (fun hc4 => ?_)
  · refine zz_iconst (pc := 56) C (v := 0) (by decide) dX1_attachesItsGroup_56 ?_
    exact zz_ireturn (pc := 57) C dX1_attachesItsGroup_57 (by decide) (Nat.le_refl _) (Nat.le_refl _) ⟨by first | exact zvt (by simp_all) | exact zvf (by simp_all), rfl⟩
  · refine zz_aload_n (pc := 7) C dX1_attachesItsGroup_7 rfl ?_
    refine zz_get (pc := 8) C in_X1_attachesItsGroup_X1 (ci := 1) rfl 1 (by decide) (fl_X1_attachesItsGroup_39) rfl dX1_attachesItsGroup_8 hx rfl ?_
    refine zz_ifnull (pc := 11) C dX1_attachesItsGroup_11 ?_
    refine zz_aload_n (pc := 14) C dX1_attachesItsGroup_14 rfl ?_
    refine zz_get (pc := 15) C in_X1_attachesItsGroup_X1 (ci := 1) rfl 1 (by decide) (fl_X1_attachesItsGroup_39) rfl dX1_attachesItsGroup_15 hx rfl ?_
    refine zz_get (pc := 18) C in_X1_attachesItsGroup_X1 (ci := 1) rfl 5 (by decide) (fl_X1_attachesItsGroup_52) rfl dX1_attachesItsGroup_18 hy rfl ?_
    refine zz_if_ne (pc := 21) C (tgt := 56) dX1_attachesItsGroup_21 (by decide) (fun hc21 => ?_) (fun hc21 => ?_)
    · refine zz_iconst (pc := 56) C (v := 0) (by decide) dX1_attachesItsGroup_56 ?_
      exact zz_ireturn (pc := 57) C dX1_attachesItsGroup_57 (by decide) (Nat.le_refl _) (Nat.le_refl _) ⟨by first | exact zvt (by simp_all) | exact zvf (by simp_all), rfl⟩
    · refine zz_aload_n (pc := 24) C dX1_attachesItsGroup_24 rfl ?_
      refine zz_get (pc := 25) C in_X1_attachesItsGroup_X1 (ci := 1) rfl 1 (by decide) (fl_X1_attachesItsGroup_39) rfl dX1_attachesItsGroup_25 hx rfl ?_
      refine zz_get (pc := 28) C in_X1_attachesItsGroup_X1 (ci := 1) rfl 3 (by decide) (fl_X1_attachesItsGroup_36) rfl dX1_attachesItsGroup_28 hy rfl ?_
      refine zz_aload_n (pc := 31) C dX1_attachesItsGroup_31 rfl ?_
      refine zz_get (pc := 32) C in_X1_attachesItsGroup_X1 (ci := 1) rfl 3 (by decide) (fl_X1_attachesItsGroup_36) rfl dX1_attachesItsGroup_32 hx rfl ?_
      refine zz_icmp_ne (pc := 35) C (tgt := 56) dX1_attachesItsGroup_35 (by decide) (fun hc35 => ?_) (fun hc35 => ?_)
      · refine zz_iconst (pc := 56) C (v := 0) (by decide) dX1_attachesItsGroup_56 ?_
        exact zz_ireturn (pc := 57) C dX1_attachesItsGroup_57 (by decide) (Nat.le_refl _) (Nat.le_refl _) ⟨by first | exact zvt (by simp_all) | exact zvf (by simp_all), rfl⟩
      · refine zz_aload_n (pc := 38) C dX1_attachesItsGroup_38 rfl ?_
        refine zz_get (pc := 39) C in_X1_attachesItsGroup_X1 (ci := 1) rfl 1 (by decide) (fl_X1_attachesItsGroup_39) rfl dX1_attachesItsGroup_39 hx rfl ?_
        refine zz_get (pc := 42) C in_X1_attachesItsGroup_X1 (ci := 1) rfl 2 (by decide) (fl_X1_attachesItsGroup_33) rfl dX1_attachesItsGroup_42 hy rfl ?_
        refine zz_aload_n (pc := 45) C dX1_attachesItsGroup_45 rfl ?_
        refine zz_get (pc := 46) C in_X1_attachesItsGroup_X1 (ci := 1) rfl 2 (by decide) (fl_X1_attachesItsGroup_33) rfl dX1_attachesItsGroup_46 hx rfl ?_
        refine zz_icmp_eq (pc := 49) C (tgt := 56) dX1_attachesItsGroup_49 (by decide) (fun hc49 => ?_) (fun hc49 => ?_)
        · refine zz_iconst (pc := 56) C (v := 0) (by decide) dX1_attachesItsGroup_56 ?_
          exact zz_ireturn (pc := 57) C dX1_attachesItsGroup_57 (by decide) (Nat.le_refl _) (Nat.le_refl _) ⟨by first | exact zvt (by simp_all) | exact zvf (by simp_all), rfl⟩
        · refine zz_iconst (pc := 52) C (v := 1) (by decide) dX1_attachesItsGroup_52 ?_
          refine zz_goto (pc := 53) C (tgt := 57) dX1_attachesItsGroup_53 (by decide) ?_
          exact zz_ireturn (pc := 57) C dX1_attachesItsGroup_57 (by decide) (Nat.le_refl _) (Nat.le_refl _) ⟨by first | exact zvt (by simp_all) | exact zvf (by simp_all), rfl⟩

set_option maxHeartbeats 4000000 in
set_option maxRecDepth 100000 in
theorem c_X1_heeds (l : Launch) (D : va_G) {G : zG} {a t : Nat} {par : Value} {f : Nat → Int32} {x : Int32} (hx : G a = some (t, .inr (1, zPr par f))) : zMet D l yX1_heeds wsX1_heeds ({ frames := 1, cells := 0, slots := 0, locals := 21 } : Room) [.ref a, .int x] G (fun v G9 => v = some (.int (zb (zHeedF f x))) ∧ G9 = G) := by
  refine zMet_of (cc := cX1_heeds) (maxL := 3) (ret := (some .boolean)) (by decide) rfl (Nat.le_of_ble_eq_true rfl) ?_
  intro p e s m args below meth c C hmn
  refine zz_aload_n (pc := 0) C dX1_heeds_0 rfl ?_
  refine zz_iload_n (pc := 1) C dX1_heeds_1 rfl ?_
  refine zz_callV (pc := 2) C (c_X1_actionFor l D hx (x := x)) gX1_heeds_X1_actionFor rfl 1 (by decide +kernel) ⟨Nat.le_of_ble_eq_true rfl, Nat.le_of_ble_eq_true rfl⟩ hx (ci := 1) rfl rfl rfl dX1_heeds_2 rfl (Nat.le_of_ble_eq_true rfl) rfl ⟨Nat.le_of_ble_eq_true rfl, Nat.le_of_ble_eq_true rfl⟩ ?_
  rintro v G9 ⟨rfl, rfl⟩
  refine zz_istore_n (pc := 5) C dX1_heeds_5 (Nat.le_of_ble_eq_true rfl) ?_
  refine zz_iload_n (pc := 6) C dX1_heeds_6 rfl ?_
  refine zz_iconst (pc := 7) C (v := 2) (by decide) dX1_heeds_7 ?_
  refine zz_icmp_eq (pc := 8) C (tgt := 26) dX1_heeds_8 (by decide) (fun hc8 => ?_) (fun hc8 => ?_)
  · refine zz_iconst (pc := 26) C (v := 1) (by decide) dX1_heeds_26 ?_
    refine zz_goto (pc := 27) C (tgt := 31) dX1_heeds_27 (by decide) ?_
    exact zz_ireturn (pc := 31) C dX1_heeds_31 (by decide) (Nat.le_refl _) (Nat.le_refl _) ⟨by first | exact zvt (by simp_all [zHeedF]) | exact zvf (by simp_all [zHeedF]), rfl⟩
  · refine zz_iload_n (pc := 11) C dX1_heeds_11 rfl ?_
    refine zz_if_ne (pc := 12) C (tgt := 30) dX1_heeds_12 (by decide) (fun hc12 => ?_) (fun hc12 => ?_)
    · refine zz_iconst (pc := 30) C (v := 0) (by decide) dX1_heeds_30 ?_
      exact zz_ireturn (pc := 31) C dX1_heeds_31 (by decide) (Nat.le_refl _) (Nat.le_refl _) ⟨by first | exact zvt (by simp_all [zHeedF]) | exact zvf (by simp_all [zHeedF]), rfl⟩
    · refine zz_iload_n (pc := 15) C dX1_heeds_15 rfl ?_
      refine zz_iconst (pc := 16) C (v := 4) (by decide) dX1_heeds_16 ?_
      refine zz_icmp_eq (pc := 17) C (tgt := 30) dX1_heeds_17 (by decide) (fun hc17 => ?_) (fun hc17 => ?_)
      · refine zz_iconst (pc := 30) C (v := 0) (by decide) dX1_heeds_30 ?_
        exact zz_ireturn (pc := 31) C dX1_heeds_31 (by decide) (Nat.le_refl _) (Nat.le_refl _) ⟨by first | exact zvt (by simp_all [zHeedF]) | exact zvf (by simp_all [zHeedF]), rfl⟩
      · refine zz_iload_n (pc := 20) C dX1_heeds_20 rfl ?_
        refine zz_bipush (pc := 21) C (v := 7) (by decide) dX1_heeds_21 ?_
        refine zz_icmp_eq (pc := 23) C (tgt := 30) dX1_heeds_23 (by decide) (fun hc23 => ?_) (fun hc23 => ?_)
        · refine zz_iconst (pc := 30) C (v := 0) (by decide) dX1_heeds_30 ?_
          exact zz_ireturn (pc := 31) C dX1_heeds_31 (by decide) (Nat.le_refl _) (Nat.le_refl _) ⟨by first | exact zvt (by simp_all [zHeedF]) | exact zvf (by simp_all [zHeedF]), rfl⟩
        · refine zz_iconst (pc := 26) C (v := 1) (by decide) dX1_heeds_26 ?_
          refine zz_goto (pc := 27) C (tgt := 31) dX1_heeds_27 (by decide) ?_
          exact zz_ireturn (pc := 31) C dX1_heeds_31 (by decide) (Nat.le_refl _) (Nat.le_refl _) ⟨by first | exact zvt (by simp_all [zHeedF]) | exact zvf (by simp_all [zHeedF]), rfl⟩
theorem fl_X1_forget_70 : Cond.fieldLink RX1 70 "Signalpost$Proc" "pending" "I" ∈ wsX1_forget := by decide +kernel
theorem in_X1_forget_X1 : ∀ w ∈ u_ws RX1 TX1 20, w ∈ wsX1_forget := by decide +kernel
set_option maxHeartbeats 4000000 in
set_option maxRecDepth 100000 in
theorem c_X1_forget (l : Launch) (D : va_G) {G : zG} {a t : Nat} {par : Value} {f : Nat → Int32} {x : Int32} (hx : G a = some (t, .inr (1, zPr par f))) : zMet D l yX1_forget wsX1_forget ({ frames := 0, cells := 0, slots := 0, locals := 0 } : Room) [.ref a, .int x] G (fun v G9 => v = none ∧ G9 = zU G a (t, .inr (1, zPr par (zForgF f x)))) := by
  refine zMet_of (cc := cX1_forget) (maxL := 2) (ret := none) (by decide) rfl (Nat.le_of_ble_eq_true rfl) ?_
  intro p e s m args below meth c C hmn
  refine zV.eqG (zU_id hx).symm ?_
  refine zz_aload_n (pc := 0) C dX1_forget_0 rfl ?_
  refine zz_dup (pc := 1) C dX1_forget_1 rfl ?_
  refine zz_get (pc := 2) C in_X1_forget_X1 (ci := 1) rfl 15 (by decide) (fl_X1_forget_70) rfl dX1_forget_2 zU_self rfl ?_
  refine zz_iconst (pc := 5) C (v := 1) (by decide) dX1_forget_5 ?_
  refine zz_iload_n (pc := 6) C dX1_forget_6 rfl ?_
  refine zz_ishl (pc := 7) C dX1_forget_7 ?_
  refine zz_iconst (pc := 8) C (v := -1) (by decide) dX1_forget_8 ?_
  refine zz_ixor (pc := 9) C dX1_forget_9 ?_
  refine zz_iand (pc := 10) C dX1_forget_10 ?_
  refine zz_pput (pc := 11) C in_X1_forget_X1 15 (by decide) (by decide) (by decide) fl_X1_forget_70 dX1_forget_11 rfl rfl ?_
  exact zz_return (pc := 14) C dX1_forget_14 (Nat.le_refl _) (Nat.le_refl _) ⟨rfl, rfl⟩
theorem fl_X1_endWait_59 : Cond.fieldLink RX1 59 "Signalpost$Proc" "waiting" "Z" ∈ wsX1_endWait := by decide +kernel
theorem fl_X1_endWait_21 : Cond.fieldLink RX1 21 "Signalpost$Proc" "waitResult" "I" ∈ wsX1_endWait := by decide +kernel
theorem fl_X1_endWait_24 : Cond.fieldLink RX1 24 "Signalpost$Proc" "reportedChild" "I" ∈ wsX1_endWait := by decide +kernel
theorem fl_X1_endWait_27 : Cond.fieldLink RX1 27 "Signalpost$Proc" "reportedValue" "I" ∈ wsX1_endWait := by decide +kernel
theorem in_X1_endWait_X1 : ∀ w ∈ u_ws RX1 TX1 20, w ∈ wsX1_endWait := by decide +kernel
set_option maxHeartbeats 4000000 in
set_option maxRecDepth 100000 in
theorem c_X1_endWait (l : Launch) (D : va_G) {G : zG} {a t : Nat} {par : Value} {f : Nat → Int32} {x y z : Int32} (hx : G a = some (t, .inr (1, zPr par f))) : zMet D l yX1_endWait wsX1_endWait ({ frames := 0, cells := 0, slots := 0, locals := 0 } : Room) [.ref a, .int x, .int y, .int z] G (fun v G9 => v = none ∧ G9 = zU G a (t, .inr (1, zPr par (zEndF f x y z)))) := by
  refine zMet_of (cc := cX1_endWait) (maxL := 4) (ret := none) (by decide) rfl (Nat.le_of_ble_eq_true rfl) ?_
  intro p e s m args below meth c C hmn
  refine zV.eqG (zU_id hx).symm ?_
  refine zz_aload_n (pc := 0) C dX1_endWait_0 rfl ?_
  refine zz_iconst (pc := 1) C (v := 0) (by decide) dX1_endWait_1 ?_
  refine zz_pput (pc := 2) C in_X1_endWait_X1 7 (by decide) (by decide) (by decide) fl_X1_endWait_59 dX1_endWait_2 rfl rfl ?_
  refine zz_aload_n (pc := 5) C dX1_endWait_5 rfl ?_
  refine zz_iload_n (pc := 6) C dX1_endWait_6 rfl ?_
  refine zz_pput (pc := 7) C in_X1_endWait_X1 17 (by decide) (by decide) (by decide) fl_X1_endWait_21 dX1_endWait_7 rfl rfl ?_
  refine zz_aload_n (pc := 10) C dX1_endWait_10 rfl ?_
  refine zz_iload_n (pc := 11) C dX1_endWait_11 rfl ?_
  refine zz_pput (pc := 12) C in_X1_endWait_X1 18 (by decide) (by decide) (by decide) fl_X1_endWait_24 dX1_endWait_12 rfl rfl ?_
  refine zz_aload_n (pc := 15) C dX1_endWait_15 rfl ?_
  refine zz_iload_n (pc := 16) C dX1_endWait_16 rfl ?_
  refine zz_pput (pc := 17) C in_X1_endWait_X1 19 (by decide) (by decide) (by decide) fl_X1_endWait_27 dX1_endWait_17 rfl rfl ?_
  exact zz_return (pc := 20) C dX1_endWait_20 (Nat.le_refl _) (Nat.le_refl _) ⟨rfl, rfl⟩
theorem fl_X1_becomeZombie_52 : Cond.fieldLink RX1 52 "Signalpost$Proc" "zombie" "Z" ∈ wsX1_becomeZombie := by decide +kernel
theorem fl_X1_becomeZombie_56 : Cond.fieldLink RX1 56 "Signalpost$Proc" "stopped" "Z" ∈ wsX1_becomeZombie := by decide +kernel
theorem fl_X1_becomeZombie_59 : Cond.fieldLink RX1 59 "Signalpost$Proc" "waiting" "Z" ∈ wsX1_becomeZombie := by decide +kernel
theorem fl_X1_becomeZombie_70 : Cond.fieldLink RX1 70 "Signalpost$Proc" "pending" "I" ∈ wsX1_becomeZombie := by decide +kernel
theorem fl_X1_becomeZombie_15 : Cond.fieldLink RX1 15 "Signalpost$Proc" "report" "I" ∈ wsX1_becomeZombie := by decide +kernel
theorem fl_X1_becomeZombie_18 : Cond.fieldLink RX1 18 "Signalpost$Proc" "value" "I" ∈ wsX1_becomeZombie := by decide +kernel
theorem in_X1_becomeZombie_X1 : ∀ w ∈ u_ws RX1 TX1 20, w ∈ wsX1_becomeZombie := by decide +kernel
set_option maxHeartbeats 4000000 in
set_option maxRecDepth 100000 in
theorem c_X1_becomeZombie (l : Launch) (D : va_G) {G : zG} {a t : Nat} {par : Value} {f : Nat → Int32} {x y : Int32} (hx : G a = some (t, .inr (1, zPr par f))) : zMet D l yX1_becomeZombie wsX1_becomeZombie ({ frames := 0, cells := 0, slots := 0, locals := 0 } : Room) [.ref a, .int x, .int y] G (fun v G9 => v = none ∧ G9 = zU G a (t, .inr (1, zPr par (zZomF f x y)))) := by
  refine zMet_of (cc := cX1_becomeZombie) (maxL := 3) (ret := none) (by decide) rfl (Nat.le_of_ble_eq_true rfl) ?_
  intro p e s m args below meth c C hmn
  refine zV.eqG (zU_id hx).symm ?_
  refine zz_aload_n (pc := 0) C dX1_becomeZombie_0 rfl ?_
  refine zz_iconst (pc := 1) C (v := 1) (by decide) dX1_becomeZombie_1 ?_
  refine zz_pput (pc := 2) C in_X1_becomeZombie_X1 5 (by decide) (by decide) (by decide) fl_X1_becomeZombie_52 dX1_becomeZombie_2 rfl rfl ?_
  refine zz_aload_n (pc := 5) C dX1_becomeZombie_5 rfl ?_
  refine zz_iconst (pc := 6) C (v := 0) (by decide) dX1_becomeZombie_6 ?_
  refine zz_pput (pc := 7) C in_X1_becomeZombie_X1 6 (by decide) (by decide) (by decide) fl_X1_becomeZombie_56 dX1_becomeZombie_7 rfl rfl ?_
  refine zz_aload_n (pc := 10) C dX1_becomeZombie_10 rfl ?_
  refine zz_iconst (pc := 11) C (v := 0) (by decide) dX1_becomeZombie_11 ?_
  refine zz_pput (pc := 12) C in_X1_becomeZombie_X1 7 (by decide) (by decide) (by decide) fl_X1_becomeZombie_59 dX1_becomeZombie_12 rfl rfl ?_
  refine zz_aload_n (pc := 15) C dX1_becomeZombie_15 rfl ?_
  refine zz_iconst (pc := 16) C (v := 0) (by decide) dX1_becomeZombie_16 ?_
  refine zz_pput (pc := 17) C in_X1_becomeZombie_X1 15 (by decide) (by decide) (by decide) fl_X1_becomeZombie_70 dX1_becomeZombie_17 rfl rfl ?_
  refine zz_aload_n (pc := 20) C dX1_becomeZombie_20 rfl ?_
  refine zz_iload_n (pc := 21) C dX1_becomeZombie_21 rfl ?_
  refine zz_pput (pc := 22) C in_X1_becomeZombie_X1 10 (by decide) (by decide) (by decide) fl_X1_becomeZombie_15 dX1_becomeZombie_22 rfl rfl ?_
  refine zz_aload_n (pc := 25) C dX1_becomeZombie_25 rfl ?_
  refine zz_iload_n (pc := 26) C dX1_becomeZombie_26 rfl ?_
  refine zz_pput (pc := 27) C in_X1_becomeZombie_X1 11 (by decide) (by decide) (by decide) fl_X1_becomeZombie_18 dX1_becomeZombie_27 rfl rfl ?_
  exact zz_return (pc := 30) C dX1_becomeZombie_30 (Nat.le_refl _) (Nat.le_refl _) ⟨rfl, rfl⟩
theorem fl_X1_resume_56 : Cond.fieldLink RX1 56 "Signalpost$Proc" "stopped" "Z" ∈ wsX1_resume := by decide +kernel
theorem fl_X1_resume_15 : Cond.fieldLink RX1 15 "Signalpost$Proc" "report" "I" ∈ wsX1_resume := by decide +kernel
theorem in_X1_resume_X1 : ∀ w ∈ u_ws RX1 TX1 20, w ∈ wsX1_resume := by decide +kernel
set_option maxHeartbeats 4000000 in
set_option maxRecDepth 100000 in
theorem c_X1_resume (l : Launch) (D : va_G) {G : zG} {a t : Nat} {par : Value} {f : Nat → Int32} (hx : G a = some (t, .inr (1, zPr par f))) : zMet D l yX1_resume wsX1_resume ({ frames := 0, cells := 0, slots := 0, locals := 0 } : Room) [.ref a] G (fun v G9 => v = none ∧ G9 = zU G a (t, .inr (1, zPr par (zResF f)))) := by
  refine zMet_of (cc := cX1_resume) (maxL := 1) (ret := none) (by decide) rfl (Nat.le_of_ble_eq_true rfl) ?_
  intro p e s m args below meth c C hmn
  refine zV.eqG (zU_id hx).symm ?_
  refine zz_aload_n (pc := 0) C dX1_resume_0 rfl ?_
  refine zz_get (pc := 1) C in_X1_resume_X1 (ci := 1) rfl 6 (by decide) (fl_X1_resume_56) rfl dX1_resume_1 zU_self rfl ?_
  refine zz_if_eq (pc := 4) C (tgt := 17) dX1_resume_4 (by decide) (fun hc4 => ?_) (fun hc4 => ?_)
  · exact zz_return (pc := 17) C dX1_resume_17 (Nat.le_refl _) (Nat.le_refl _) ⟨rfl, by simp only [zResF]; split <;> first | rfl | (exfalso; simp_all)⟩
  · refine zz_aload_n (pc := 7) C dX1_resume_7 rfl ?_
    refine zz_iconst (pc := 8) C (v := 0) (by decide) dX1_resume_8 ?_
    refine zz_pput (pc := 9) C in_X1_resume_X1 6 (by decide) (by decide) (by decide) fl_X1_resume_56 dX1_resume_9 rfl rfl ?_
    refine zz_aload_n (pc := 12) C dX1_resume_12 rfl ?_
    refine zz_iconst (pc := 13) C (v := -1) (by decide) dX1_resume_13 ?_
    refine zz_pput (pc := 14) C in_X1_resume_X1 10 (by decide) (by decide) (by decide) fl_X1_resume_15 dX1_resume_14 rfl rfl ?_
    exact zz_return (pc := 17) C dX1_resume_17 (Nat.le_refl _) (Nat.le_refl _) ⟨rfl, by simp only [zResF]; split <;> first | rfl | (exfalso; simp_all)⟩
theorem fl_X1_catchSignal_82 : Cond.fieldLink RX1 82 "Signalpost$Proc" "caught" "I" ∈ wsX1_catchSignal := by decide +kernel
theorem fl_X1_catchSignal_59 : Cond.fieldLink RX1 59 "Signalpost$Proc" "waiting" "Z" ∈ wsX1_catchSignal := by decide +kernel
theorem in_X1_catchSignal_X1 : ∀ w ∈ u_ws RX1 TX1 20, w ∈ wsX1_catchSignal := by decide +kernel
set_option maxHeartbeats 4000000 in
set_option maxRecDepth 100000 in
theorem c_X1_catchSignal (l : Launch) (D : va_G) {G : zG} {a t : Nat} {par : Value} {f : Nat → Int32} (hx : G a = some (t, .inr (1, zPr par f))) : zMet D l yX1_catchSignal wsX1_catchSignal ({ frames := 1, cells := 0, slots := 0, locals := 23 } : Room) [.ref a] G (fun v G9 => v = none ∧ G9 = zU G a (t, .inr (1, zPr par (zCatF f)))) := by
  refine zMet_of (cc := cX1_catchSignal) (maxL := 1) (ret := none) (by decide) rfl (Nat.le_of_ble_eq_true rfl) ?_
  intro p e s m args below meth c C hmn
  refine zV.eqG (zU_id hx).symm ?_
  refine zz_aload_n (pc := 0) C dX1_catchSignal_0 rfl ?_
  refine zz_dup (pc := 1) C dX1_catchSignal_1 rfl ?_
  refine zz_get (pc := 2) C in_X1_catchSignal_X1 (ci := 1) rfl 16 (by decide) (fl_X1_catchSignal_82) rfl dX1_catchSignal_2 zU_self rfl ?_
  refine zz_iconst (pc := 5) C (v := 1) (by decide) dX1_catchSignal_5 ?_
  refine zz_iadd (pc := 6) C dX1_catchSignal_6 ?_
  refine zz_pput (pc := 7) C in_X1_catchSignal_X1 16 (by decide) (by decide) (by decide) fl_X1_catchSignal_82 dX1_catchSignal_7 rfl rfl ?_
  refine zz_aload_n (pc := 10) C dX1_catchSignal_10 rfl ?_
  refine zz_get (pc := 11) C in_X1_catchSignal_X1 (ci := 1) rfl 7 (by decide) (fl_X1_catchSignal_59) rfl dX1_catchSignal_11 zU_self rfl ?_
  refine zz_if_eq (pc := 14) C (tgt := 24) dX1_catchSignal_14 (by decide) (fun hc14 => ?_) (fun hc14 => ?_)
  · exact zz_return (pc := 24) C dX1_catchSignal_24 (Nat.le_refl _) (Nat.le_refl _) ⟨rfl, by simp only [zCatF]; split <;> first | rfl | (exfalso; simp_all [upd])⟩
  · refine zz_aload_n (pc := 17) C dX1_catchSignal_17 rfl ?_
    refine zz_iconst (pc := 18) C (v := 3) (by decide) dX1_catchSignal_18 ?_
    refine zz_iconst (pc := 19) C (v := -1) (by decide) dX1_catchSignal_19 ?_
    refine zz_iconst (pc := 20) C (v := -1) (by decide) dX1_catchSignal_20 ?_
    refine zz_callV (pc := 21) C (c_X1_endWait l D zU_self (x := 3) (y := -1) (z := -1)) gX1_catchSignal_X1_endWait rfl 3 (by decide +kernel) ⟨Nat.le_of_ble_eq_true rfl, Nat.le_of_ble_eq_true rfl⟩ zU_self (ci := 1) rfl rfl rfl dX1_catchSignal_21 rfl (Nat.le_of_ble_eq_true rfl) rfl ⟨Nat.le_of_ble_eq_true rfl, Nat.le_of_ble_eq_true rfl⟩ ?_
    rintro v G9 ⟨rfl, rfl⟩
    rw [zU_zU]
    exact zz_return (pc := 24) C dX1_catchSignal_24 (Nat.le_refl _) (Nat.le_refl _) ⟨rfl, by simp only [zCatF]; split <;> first | rfl | (exfalso; simp_all [upd])⟩
theorem fl_X1_inherit_39 : Cond.fieldLink RX1 39 "Signalpost$Proc" "parent" "LSignalpost$Proc;" ∈ wsX1_inherit := by decide +kernel
theorem fl_X1_inherit_33 : Cond.fieldLink RX1 33 "Signalpost$Proc" "group" "I" ∈ wsX1_inherit := by decide +kernel
theorem fl_X1_inherit_36 : Cond.fieldLink RX1 36 "Signalpost$Proc" "session" "I" ∈ wsX1_inherit := by decide +kernel
theorem fl_X1_inherit_43 : Cond.fieldLink RX1 43 "Signalpost$Proc" "ignores" "I" ∈ wsX1_inherit := by decide +kernel
theorem fl_X1_inherit_46 : Cond.fieldLink RX1 46 "Signalpost$Proc" "catches" "I" ∈ wsX1_inherit := by decide +kernel
theorem fl_X1_inherit_49 : Cond.fieldLink RX1 49 "Signalpost$Proc" "mask" "I" ∈ wsX1_inherit := by decide +kernel
theorem in_X1_inherit_X1 : ∀ w ∈ u_ws RX1 TX1 20, w ∈ wsX1_inherit := by decide +kernel
set_option maxHeartbeats 4000000 in
set_option maxRecDepth 100000 in
theorem c_X1_inherit (l : Launch) (D : va_G) {G : zG} {a t b tb : Nat} {par pb : Value} {f g : Nat → Int32} (hx : G a = some (t, .inr (1, zPr par f))) (hy : G b = some (tb, .inr (1, zPr pb g))) (hba : b ≠ a) : zMet D l yX1_inherit wsX1_inherit ({ frames := 0, cells := 0, slots := 0, locals := 0 } : Room) [.ref a, .ref b] G (fun v G9 => v = none ∧ G9 = zU G a (t, .inr (1, zPr (.ref b) (zInhF f g)))) := by
  refine zMet_of (cc := cX1_inherit) (maxL := 2) (ret := none) (by decide) rfl (Nat.le_of_ble_eq_true rfl) ?_
  intro p e s m args below meth c C hmn
  refine zV.eqG (zU_id hx).symm ?_
  refine zz_aload_n (pc := 0) C dX1_inherit_0 rfl ?_
  refine zz_aload_n (pc := 1) C dX1_inherit_1 rfl ?_
  refine zz_pputR (pc := 2) C in_X1_inherit_X1 fl_X1_inherit_39 dX1_inherit_2 ?_
  refine zz_aload_n (pc := 5) C dX1_inherit_5 rfl ?_
  refine zz_aload_n (pc := 6) C dX1_inherit_6 rfl ?_
  refine zz_get (pc := 7) C in_X1_inherit_X1 (ci := 1) rfl 2 (by decide) (fl_X1_inherit_33) rfl dX1_inherit_7 ((zU_ne hba).trans hy) rfl ?_
  refine zz_pput (pc := 10) C in_X1_inherit_X1 2 (by decide) (by decide) (by decide) fl_X1_inherit_33 dX1_inherit_10 rfl rfl ?_
  refine zz_aload_n (pc := 13) C dX1_inherit_13 rfl ?_
  refine zz_aload_n (pc := 14) C dX1_inherit_14 rfl ?_
  refine zz_get (pc := 15) C in_X1_inherit_X1 (ci := 1) rfl 3 (by decide) (fl_X1_inherit_36) rfl dX1_inherit_15 ((zU_ne hba).trans hy) rfl ?_
  refine zz_pput (pc := 18) C in_X1_inherit_X1 3 (by decide) (by decide) (by decide) fl_X1_inherit_36 dX1_inherit_18 rfl rfl ?_
  refine zz_aload_n (pc := 21) C dX1_inherit_21 rfl ?_
  refine zz_aload_n (pc := 22) C dX1_inherit_22 rfl ?_
  refine zz_get (pc := 23) C in_X1_inherit_X1 (ci := 1) rfl 12 (by decide) (fl_X1_inherit_43) rfl dX1_inherit_23 ((zU_ne hba).trans hy) rfl ?_
  refine zz_pput (pc := 26) C in_X1_inherit_X1 12 (by decide) (by decide) (by decide) fl_X1_inherit_43 dX1_inherit_26 rfl rfl ?_
  refine zz_aload_n (pc := 29) C dX1_inherit_29 rfl ?_
  refine zz_aload_n (pc := 30) C dX1_inherit_30 rfl ?_
  refine zz_get (pc := 31) C in_X1_inherit_X1 (ci := 1) rfl 13 (by decide) (fl_X1_inherit_46) rfl dX1_inherit_31 ((zU_ne hba).trans hy) rfl ?_
  refine zz_pput (pc := 34) C in_X1_inherit_X1 13 (by decide) (by decide) (by decide) fl_X1_inherit_46 dX1_inherit_34 rfl rfl ?_
  refine zz_aload_n (pc := 37) C dX1_inherit_37 rfl ?_
  refine zz_aload_n (pc := 38) C dX1_inherit_38 rfl ?_
  refine zz_get (pc := 39) C in_X1_inherit_X1 (ci := 1) rfl 14 (by decide) (fl_X1_inherit_49) rfl dX1_inherit_39 ((zU_ne hba).trans hy) rfl ?_
  refine zz_pput (pc := 42) C in_X1_inherit_X1 14 (by decide) (by decide) (by decide) fl_X1_inherit_49 dX1_inherit_42 rfl rfl ?_
  exact zz_return (pc := 45) C dX1_inherit_45 (Nat.le_refl _) (Nat.le_refl _) ⟨rfl, rfl⟩
theorem fl_X1_awaits_39 : Cond.fieldLink RX1 39 "Signalpost$Proc" "parent" "LSignalpost$Proc;" ∈ wsX1_awaits := by decide +kernel
theorem fl_X1_awaits_9 : Cond.fieldLink RX1 9 "Signalpost$Proc" "awaited" "I" ∈ wsX1_awaits := by decide +kernel
theorem fl_X1_awaits_30 : Cond.fieldLink RX1 30 "Signalpost$Proc" "pid" "I" ∈ wsX1_awaits := by decide +kernel
theorem in_X1_awaits_X1 : ∀ w ∈ u_ws RX1 TX1 20, w ∈ wsX1_awaits := by decide +kernel
set_option maxHeartbeats 4000000 in
set_option maxRecDepth 100000 in
theorem c_X1_awaitsN (l : Launch) (D : va_G) {G : zG} {a t b tb q : Nat} {par : Value} {f g : Nat → Int32} (hx : G a = some (t, .inr (1, zPr par f))) (hy : G b = some (tb, .inr (1, zPr .null g))) : zMet D l yX1_awaits wsX1_awaits ({ frames := 0, cells := 0, slots := 0, locals := 0 } : Room) [.ref a, .ref b] G (fun v G9 => v = some (.int 0) ∧ G9 = G) := by
  refine zMet_of (cc := cX1_awaits) (maxL := 2) (ret := (some .boolean)) (by decide) rfl (Nat.le_of_ble_eq_true rfl) ?_
  intro p e s m args below meth c C hmn
  refine zz_aload_n (pc := 0) C dX1_awaits_0 rfl ?_
  refine zz_get (pc := 1) C in_X1_awaits_X1 (ci := 1) rfl 1 (by decide) (fl_X1_awaits_39) rfl dX1_awaits_1 hy rfl ?_
  refine zz_aload_n (pc := 4) C dX1_awaits_4 rfl ?_
  refine zz_acmpN_ne (pc := 5) C (tgt := 31) dX1_awaits_5 (by decide) ?_
  refine zz_iconst (pc := 31) C (v := 0) (by decide) dX1_awaits_31 ?_
  exact zz_ireturn (pc := 32) C dX1_awaits_32 (by decide) (Nat.le_refl _) (Nat.le_refl _) ⟨rfl, rfl⟩
set_option maxHeartbeats 4000000 in
set_option maxRecDepth 100000 in
theorem c_X1_awaits (l : Launch) (D : va_G) {G : zG} {a t b tb q : Nat} {par : Value} {f g : Nat → Int32} (hx : G a = some (t, .inr (1, zPr par f))) (hy : G b = some (tb, .inr (1, zPr (.ref q) g))) : zMet D l yX1_awaits wsX1_awaits ({ frames := 0, cells := 0, slots := 0, locals := 0 } : Room) [.ref a, .ref b] G (fun v G9 => v = some (.int (zb (q = a ∧ (f 8 = -1 ∨ f 8 = g 0)))) ∧ G9 = G) := by
  refine zMet_of (cc := cX1_awaits) (maxL := 2) (ret := (some .boolean)) (by decide) rfl (Nat.le_of_ble_eq_true rfl) ?_
  intro p e s m args below meth c C hmn
  refine zz_aload_n (pc := 0) C dX1_awaits_0 rfl ?_
  refine zz_get (pc := 1) C in_X1_awaits_X1 (ci := 1) rfl 1 (by decide) (fl_X1_awaits_39) rfl dX1_awaits_1 hy rfl ?_
  refine zz_aload_n (pc := 4) C dX1_awaits_4 rfl ?_
  refine zz_acmp_ne (pc := 5) C (tgt := 31) dX1_awaits_5 (by decide) (fun hc5 => ?_) (fun hc5 => ?_)
  · refine zz_iconst (pc := 31) C (v := 0) (by decide) dX1_awaits_31 ?_
    exact zz_ireturn (pc := 32) C dX1_awaits_32 (by decide) (Nat.le_refl _) (Nat.le_refl _) ⟨by first | exact zvt (by simp_all) | exact zvf (by simp_all), rfl⟩
  · refine zz_aload_n (pc := 8) C dX1_awaits_8 rfl ?_
    refine zz_get (pc := 9) C in_X1_awaits_X1 (ci := 1) rfl 8 (by decide) (fl_X1_awaits_9) rfl dX1_awaits_9 hx rfl ?_
    refine zz_iconst (pc := 12) C (v := -1) (by decide) dX1_awaits_12 ?_
    refine zz_icmp_eq (pc := 13) C (tgt := 27) dX1_awaits_13 (by decide) (fun hc13 => ?_) (fun hc13 => ?_)
    · refine zz_iconst (pc := 27) C (v := 1) (by decide) dX1_awaits_27 ?_
      refine zz_goto (pc := 28) C (tgt := 32) dX1_awaits_28 (by decide) ?_
      exact zz_ireturn (pc := 32) C dX1_awaits_32 (by decide) (Nat.le_refl _) (Nat.le_refl _) ⟨by first | exact zvt (by simp_all) | exact zvf (by simp_all), rfl⟩
    · refine zz_aload_n (pc := 16) C dX1_awaits_16 rfl ?_
      refine zz_get (pc := 17) C in_X1_awaits_X1 (ci := 1) rfl 8 (by decide) (fl_X1_awaits_9) rfl dX1_awaits_17 hx rfl ?_
      refine zz_aload_n (pc := 20) C dX1_awaits_20 rfl ?_
      refine zz_get (pc := 21) C in_X1_awaits_X1 (ci := 1) rfl 0 (by decide) (fl_X1_awaits_30) rfl dX1_awaits_21 hy rfl ?_
      refine zz_icmp_ne (pc := 24) C (tgt := 31) dX1_awaits_24 (by decide) (fun hc24 => ?_) (fun hc24 => ?_)
      · refine zz_iconst (pc := 31) C (v := 0) (by decide) dX1_awaits_31 ?_
        exact zz_ireturn (pc := 32) C dX1_awaits_32 (by decide) (Nat.le_refl _) (Nat.le_refl _) ⟨by first | exact zvt (by simp_all) | exact zvf (by simp_all), rfl⟩
      · refine zz_iconst (pc := 27) C (v := 1) (by decide) dX1_awaits_27 ?_
        refine zz_goto (pc := 28) C (tgt := 32) dX1_awaits_28 (by decide) ?_
        exact zz_ireturn (pc := 32) C dX1_awaits_32 (by decide) (Nat.le_refl _) (Nat.le_refl _) ⟨by first | exact zvt (by simp_all) | exact zvf (by simp_all), rfl⟩
theorem fl_X1_canReport_15 : Cond.fieldLink RX1 15 "Signalpost$Proc" "report" "I" ∈ wsX1_canReport := by decide +kernel
theorem fl_X1_canReport_89 : Cond.fieldLink RX1 89 "Signalpost$Proc" "awaitsStops" "Z" ∈ wsX1_canReport := by decide +kernel
theorem in_X1_canReport_X1 : ∀ w ∈ u_ws RX1 TX1 20, w ∈ wsX1_canReport := by decide +kernel
set_option maxHeartbeats 4000000 in
set_option maxRecDepth 100000 in
theorem c_X1_canReport (l : Launch) (D : va_G) {G : zG} {a t b tb : Nat} {par pb : Value} {f g : Nat → Int32} (hx : G a = some (t, .inr (1, zPr par f))) (hy : G b = some (tb, .inr (1, zPr pb g))) : zMet D l yX1_canReport wsX1_canReport ({ frames := 0, cells := 0, slots := 0, locals := 0 } : Room) [.ref a, .ref b] G (fun v G9 => v = some (.int (zb (g 10 ≠ -1 ∧ (g 10 ≠ 2 ∨ f 9 ≠ 0)))) ∧ G9 = G) := by
  refine zMet_of (cc := cX1_canReport) (maxL := 2) (ret := (some .boolean)) (by decide) rfl (Nat.le_of_ble_eq_true rfl) ?_
  intro p e s m args below meth c C hmn
  refine zz_aload_n (pc := 0) C dX1_canReport_0 rfl ?_
  refine zz_get (pc := 1) C in_X1_canReport_X1 (ci := 1) rfl 10 (by decide) (fl_X1_canReport_15) rfl dX1_canReport_1 hy rfl ?_
  refine zz_iconst (pc := 4) C (v := -1) (by decide) dX1_canReport_4 ?_
  refine zz_icmp_eq (pc := 5) C (tgt := 27) dX1_canReport_5 (by decide) (fun hc5 => ?_) (fun hc5 => ?_)
  · refine zz_iconst (pc := 27) C (v := 0) (by decide) dX1_canReport_27 ?_
    exact zz_ireturn (pc := 28) C dX1_canReport_28 (by decide) (Nat.le_refl _) (Nat.le_refl _) ⟨by first | exact zvt (by simp_all) | exact zvf (by simp_all), rfl⟩
  · refine zz_aload_n (pc := 8) C dX1_canReport_8 rfl ?_
    refine zz_get (pc := 9) C in_X1_canReport_X1 (ci := 1) rfl 10 (by decide) (fl_X1_canReport_15) rfl dX1_canReport_9 hy rfl ?_
    refine zz_iconst (pc := 12) C (v := 2) (by decide) dX1_canReport_12 ?_
    refine zz_icmp_ne (pc := 13) C (tgt := 23) dX1_canReport_13 (by decide) (fun hc13 => ?_) (fun hc13 => ?_)
    · refine zz_iconst (pc := 23) C (v := 1) (by decide) dX1_canReport_23 ?_
      refine zz_goto (pc := 24) C (tgt := 28) dX1_canReport_24 (by decide) ?_
      exact zz_ireturn (pc := 28) C dX1_canReport_28 (by decide) (Nat.le_refl _) (Nat.le_refl _) ⟨by first | exact zvt (by simp_all) | exact zvf (by simp_all), rfl⟩
    · refine zz_aload_n (pc := 16) C dX1_canReport_16 rfl ?_
      refine zz_get (pc := 17) C in_X1_canReport_X1 (ci := 1) rfl 9 (by decide) (fl_X1_canReport_89) rfl dX1_canReport_17 hx rfl ?_
      refine zz_if_eq (pc := 20) C (tgt := 27) dX1_canReport_20 (by decide) (fun hc20 => ?_) (fun hc20 => ?_)
      · refine zz_iconst (pc := 27) C (v := 0) (by decide) dX1_canReport_27 ?_
        exact zz_ireturn (pc := 28) C dX1_canReport_28 (by decide) (Nat.le_refl _) (Nat.le_refl _) ⟨by first | exact zvt (by simp_all) | exact zvf (by simp_all), rfl⟩
      · refine zz_iconst (pc := 23) C (v := 1) (by decide) dX1_canReport_23 ?_
        refine zz_goto (pc := 24) C (tgt := 28) dX1_canReport_24 (by decide) ?_
        exact zz_ireturn (pc := 28) C dX1_canReport_28 (by decide) (Nat.le_refl _) (Nat.le_refl _) ⟨by first | exact zvt (by simp_all) | exact zvf (by simp_all), rfl⟩
theorem fl_X1_changeAction_43 : Cond.fieldLink RX1 43 "Signalpost$Proc" "ignores" "I" ∈ wsX1_changeAction := by decide +kernel
theorem fl_X1_changeAction_46 : Cond.fieldLink RX1 46 "Signalpost$Proc" "catches" "I" ∈ wsX1_changeAction := by decide +kernel
theorem in_X1_changeAction_X1 : ∀ w ∈ u_ws RX1 TX1 20, w ∈ wsX1_changeAction := by decide +kernel
set_option maxHeartbeats 4000000 in
set_option maxRecDepth 100000 in
theorem c_X1_changeAction (l : Launch) (D : va_G) {G : zG} {a t : Nat} {par : Value} {f : Nat → Int32} {x z : Int32} (hx : G a = some (t, .inr (1, zPr par f))) : zMet D l yX1_changeAction wsX1_changeAction ({ frames := 2, cells := 0, slots := 0, locals := 43 } : Room) [.ref a, .int x, .int z] G (fun v G9 => v = none ∧ G9 = zU G a (t, .inr (1, zPr par (zChgF f x z)))) := by
  refine zMet_of (cc := cX1_changeAction) (maxL := 4) (ret := none) (by decide) rfl (Nat.le_of_ble_eq_true rfl) ?_
  intro p e s m args below meth c C hmn
  refine zV.eqG (zU_id hx).symm ?_
  have k2 : ∀ y : Int32, y = (if z = 2 then f 13 ||| (1 <<< (x &&& 31)) else f 13 &&& ((1 <<< (x &&& 31)) ^^^ (-1))) → zV p l e ({ frames := 2, cells := 0, slots := 0, locals := 43 } : Room) s m args below meth c D (zA G s.heap.size) 0 0 (zZ below D G (fun v G9 => v = none ∧ G9 = zU G a (t, .inr (1, zPr par (zChgF f x z)))) args s ({ frames := 2, cells := 0, slots := 0, locals := 43 } : Room)) (zU G a (t, .inr (1, zPr par (zChgF0 f x z)))) 53 [some (.ref a), some (.int x), some (.int z), some (.int (1 <<< (x &&& 31)))] [.int y, .ref a] := by
    intro y hy
    have e1 : upd (zChgF0 f x z) 13 y = zChgF1 f x z := by rw [hy]; rfl
    refine zz_pput (pc := 53) C in_X1_changeAction_X1 13 (by decide) (by decide) (by decide) fl_X1_changeAction_46 dX1_changeAction_53 rfl rfl ?_
    rw [e1]
    refine zz_aload_n (pc := 56) C dX1_changeAction_56 rfl ?_
    refine zz_iload_n (pc := 57) C dX1_changeAction_57 rfl ?_
    refine zz_callV (pc := 58) C (c_X1_heeds l D zU_self (x := x)) gX1_changeAction_X1_heeds rfl 1 (by decide +kernel) ⟨Nat.le_of_ble_eq_true rfl, Nat.le_of_ble_eq_true rfl⟩ zU_self (ci := 1) rfl rfl rfl dX1_changeAction_58 rfl (Nat.le_of_ble_eq_true rfl) rfl ⟨Nat.le_of_ble_eq_true rfl, Nat.le_of_ble_eq_true rfl⟩ ?_
    rintro v G9 ⟨rfl, rfl⟩
    refine zz_if_ne (pc := 61) C (tgt := 69) dX1_changeAction_61 (by decide) (fun hc61 => ?_) (fun hc61 => ?_)
    · exact zz_return (pc := 69) C dX1_changeAction_69 (Nat.le_refl _) (Nat.le_refl _) ⟨rfl, by simp only [zChgF]; first | rw [if_pos (zb_ne.mp hc61)] | rw [if_neg (fun q => hc61 (zb_ne.mpr q))]⟩
    · refine zz_aload_n (pc := 64) C dX1_changeAction_64 rfl ?_
      refine zz_iload_n (pc := 65) C dX1_changeAction_65 rfl ?_
      refine zz_callV (pc := 66) C (c_X1_forget l D zU_self (x := x)) gX1_changeAction_X1_forget rfl 1 (by decide +kernel) ⟨Nat.le_of_ble_eq_true rfl, Nat.le_of_ble_eq_true rfl⟩ zU_self (ci := 1) rfl rfl rfl dX1_changeAction_66 rfl (Nat.le_of_ble_eq_true rfl) rfl ⟨Nat.le_of_ble_eq_true rfl, Nat.le_of_ble_eq_true rfl⟩ ?_
      rintro v G9 ⟨rfl, rfl⟩
      rw [zU_zU]
      exact zz_return (pc := 69) C dX1_changeAction_69 (Nat.le_refl _) (Nat.le_refl _) ⟨rfl, by simp only [zChgF]; first | rw [if_pos (zb_ne.mp hc61)] | rw [if_neg (fun q => hc61 (zb_ne.mpr q))]⟩
  have k1 : ∀ y : Int32, y = (if z = 1 then f 12 ||| (1 <<< (x &&& 31)) else f 12 &&& ((1 <<< (x &&& 31)) ^^^ (-1))) → zV p l e ({ frames := 2, cells := 0, slots := 0, locals := 43 } : Room) s m args below meth c D (zA G s.heap.size) 0 0 (zZ below D G (fun v G9 => v = none ∧ G9 = zU G a (t, .inr (1, zPr par (zChgF f x z)))) args s ({ frames := 2, cells := 0, slots := 0, locals := 43 } : Room)) (zU G a (t, .inr (1, zPr par f))) 27 [some (.ref a), some (.int x), some (.int z), some (.int (1 <<< (x &&& 31)))] [.int y, .ref a] := by
    intro y hy
    have e0 : upd f 12 y = zChgF0 f x z := by rw [hy]; rfl
    refine zz_pput (pc := 27) C in_X1_changeAction_X1 12 (by decide) (by decide) (by decide) fl_X1_changeAction_43 dX1_changeAction_27 rfl rfl ?_
    rw [e0]
    refine zz_aload_n (pc := 30) C dX1_changeAction_30 rfl ?_
    refine zz_iload_n (pc := 31) C dX1_changeAction_31 rfl ?_
    refine zz_iconst (pc := 32) C (v := 2) (by decide) dX1_changeAction_32 ?_
    refine zz_icmp_ne (pc := 33) C (tgt := 45) dX1_changeAction_33 (by decide) (fun hc33 => ?_) (fun hc33 => ?_)
    · refine zz_aload_n (pc := 45) C dX1_changeAction_45 rfl ?_
      refine zz_get (pc := 46) C in_X1_changeAction_X1 (ci := 1) rfl 13 (by decide) (fl_X1_changeAction_46) rfl dX1_changeAction_46 zU_self rfl ?_
      refine zz_iload_n (pc := 49) C dX1_changeAction_49 rfl ?_
      refine zz_iconst (pc := 50) C (v := -1) (by decide) dX1_changeAction_50 ?_
      refine zz_ixor (pc := 51) C dX1_changeAction_51 ?_
      refine zz_iand (pc := 52) C dX1_changeAction_52 ?_
      exact k2 _ (by split <;> first | rfl | contradiction | (exfalso; simp_all))
    · refine zz_aload_n (pc := 36) C dX1_changeAction_36 rfl ?_
      refine zz_get (pc := 37) C in_X1_changeAction_X1 (ci := 1) rfl 13 (by decide) (fl_X1_changeAction_46) rfl dX1_changeAction_37 zU_self rfl ?_
      refine zz_iload_n (pc := 40) C dX1_changeAction_40 rfl ?_
      refine zz_ior (pc := 41) C dX1_changeAction_41 ?_
      refine zz_goto (pc := 42) C (tgt := 53) dX1_changeAction_42 (by decide) ?_
      exact k2 _ (by split <;> first | rfl | contradiction | (exfalso; simp_all))
  refine zz_iconst (pc := 0) C (v := 1) (by decide) dX1_changeAction_0 ?_
  refine zz_iload_n (pc := 1) C dX1_changeAction_1 rfl ?_
  refine zz_ishl (pc := 2) C dX1_changeAction_2 ?_
  refine zz_istore_n (pc := 3) C dX1_changeAction_3 (Nat.le_of_ble_eq_true rfl) ?_
  refine zz_aload_n (pc := 4) C dX1_changeAction_4 rfl ?_
  refine zz_iload_n (pc := 5) C dX1_changeAction_5 rfl ?_
  refine zz_iconst (pc := 6) C (v := 1) (by decide) dX1_changeAction_6 ?_
  refine zz_icmp_ne (pc := 7) C (tgt := 19) dX1_changeAction_7 (by decide) (fun hc7 => ?_) (fun hc7 => ?_)
  · refine zz_aload_n (pc := 19) C dX1_changeAction_19 rfl ?_
    refine zz_get (pc := 20) C in_X1_changeAction_X1 (ci := 1) rfl 12 (by decide) (fl_X1_changeAction_43) rfl dX1_changeAction_20 zU_self rfl ?_
    refine zz_iload_n (pc := 23) C dX1_changeAction_23 rfl ?_
    refine zz_iconst (pc := 24) C (v := -1) (by decide) dX1_changeAction_24 ?_
    refine zz_ixor (pc := 25) C dX1_changeAction_25 ?_
    refine zz_iand (pc := 26) C dX1_changeAction_26 ?_
    exact k1 _ (by split <;> first | rfl | contradiction | (exfalso; simp_all))
  · refine zz_aload_n (pc := 10) C dX1_changeAction_10 rfl ?_
    refine zz_get (pc := 11) C in_X1_changeAction_X1 (ci := 1) rfl 12 (by decide) (fl_X1_changeAction_43) rfl dX1_changeAction_11 zU_self rfl ?_
    refine zz_iload_n (pc := 14) C dX1_changeAction_14 rfl ?_
    refine zz_ior (pc := 15) C dX1_changeAction_15 ?_
    refine zz_goto (pc := 16) C (tgt := 27) dX1_changeAction_16 (by decide) ?_
    exact k1 _ (by split <;> first | rfl | contradiction | (exfalso; simp_all))
theorem fl_X1_init_9 : Cond.fieldLink RX1 9 "Signalpost$Proc" "awaited" "I" ∈ wsX1_init := by decide +kernel
theorem fl_X1_init_15 : Cond.fieldLink RX1 15 "Signalpost$Proc" "report" "I" ∈ wsX1_init := by decide +kernel
theorem fl_X1_init_18 : Cond.fieldLink RX1 18 "Signalpost$Proc" "value" "I" ∈ wsX1_init := by decide +kernel
theorem fl_X1_init_21 : Cond.fieldLink RX1 21 "Signalpost$Proc" "waitResult" "I" ∈ wsX1_init := by decide +kernel
theorem fl_X1_init_24 : Cond.fieldLink RX1 24 "Signalpost$Proc" "reportedChild" "I" ∈ wsX1_init := by decide +kernel
theorem fl_X1_init_27 : Cond.fieldLink RX1 27 "Signalpost$Proc" "reportedValue" "I" ∈ wsX1_init := by decide +kernel
theorem fl_X1_init_30 : Cond.fieldLink RX1 30 "Signalpost$Proc" "pid" "I" ∈ wsX1_init := by decide +kernel
theorem fl_X1_init_33 : Cond.fieldLink RX1 33 "Signalpost$Proc" "group" "I" ∈ wsX1_init := by decide +kernel
theorem fl_X1_init_36 : Cond.fieldLink RX1 36 "Signalpost$Proc" "session" "I" ∈ wsX1_init := by decide +kernel
theorem in_X1_init_X1 : ∀ w ∈ u_ws RX1 TX1 20, w ∈ wsX1_init := by decide +kernel
set_option maxHeartbeats 4000000 in
set_option maxRecDepth 100000 in
theorem c_X1_init (l : Launch) (D : va_G) {G : zG} {a t : Nat} {x : Int32} (hx : G a = some (t, .inr (1, zPr .null (fun _ => 0)))) : zMet D l yX1_init wsX1_init ({ frames := 1, cells := 0, slots := 0, locals := 20 } : Room) [.ref a, .int x] G (fun v G9 => v = none ∧ G9 = zU G a (t, .inr (1, zPr .null (zNewF x)))) := by
  refine zMet_of (cc := cX1_init) (maxL := 2) (ret := none) (by decide) rfl (Nat.le_of_ble_eq_true rfl) ?_
  intro p e s m args below meth c C hmn
  refine zV.eqG (zU_id hx).symm ?_
  refine zz_aload_n (pc := 0) C dX1_init_0 rfl ?_
  refine zz_objInit (pc := 1) C (by decide +kernel) (by decide +kernel) (by decide +kernel) rfl dX1_init_1 (Nat.le_of_ble_eq_true rfl) (Nat.le_of_ble_eq_true rfl) ?_
  refine zz_aload_n (pc := 4) C dX1_init_4 rfl ?_
  refine zz_iconst (pc := 5) C (v := -1) (by decide) dX1_init_5 ?_
  refine zz_pput (pc := 6) C in_X1_init_X1 8 (by decide) (by decide) (by decide) fl_X1_init_9 dX1_init_6 rfl rfl ?_
  refine zz_aload_n (pc := 9) C dX1_init_9 rfl ?_
  refine zz_iconst (pc := 10) C (v := -1) (by decide) dX1_init_10 ?_
  refine zz_pput (pc := 11) C in_X1_init_X1 10 (by decide) (by decide) (by decide) fl_X1_init_15 dX1_init_11 rfl rfl ?_
  refine zz_aload_n (pc := 14) C dX1_init_14 rfl ?_
  refine zz_iconst (pc := 15) C (v := -1) (by decide) dX1_init_15 ?_
  refine zz_pput (pc := 16) C in_X1_init_X1 11 (by decide) (by decide) (by decide) fl_X1_init_18 dX1_init_16 rfl rfl ?_
  refine zz_aload_n (pc := 19) C dX1_init_19 rfl ?_
  refine zz_iconst (pc := 20) C (v := -1) (by decide) dX1_init_20 ?_
  refine zz_pput (pc := 21) C in_X1_init_X1 17 (by decide) (by decide) (by decide) fl_X1_init_21 dX1_init_21 rfl rfl ?_
  refine zz_aload_n (pc := 24) C dX1_init_24 rfl ?_
  refine zz_iconst (pc := 25) C (v := -1) (by decide) dX1_init_25 ?_
  refine zz_pput (pc := 26) C in_X1_init_X1 18 (by decide) (by decide) (by decide) fl_X1_init_24 dX1_init_26 rfl rfl ?_
  refine zz_aload_n (pc := 29) C dX1_init_29 rfl ?_
  refine zz_iconst (pc := 30) C (v := -1) (by decide) dX1_init_30 ?_
  refine zz_pput (pc := 31) C in_X1_init_X1 19 (by decide) (by decide) (by decide) fl_X1_init_27 dX1_init_31 rfl rfl ?_
  refine zz_aload_n (pc := 34) C dX1_init_34 rfl ?_
  refine zz_iload_n (pc := 35) C dX1_init_35 rfl ?_
  refine zz_putF (pc := 36) C in_X1_init_X1 tyX1 tyX1_ok nmX1 (ci := 1) rfl 0 (by decide) fl_X1_init_30 rfl rfl (hmn.trans rfl) rfl dX1_init_36 zU_self rfl rfl (by decide) ?_
  rw [zU_zU, zPr_set 0 (by decide) (by decide)]
  refine zz_aload_n (pc := 39) C dX1_init_39 rfl ?_
  refine zz_iload_n (pc := 40) C dX1_init_40 rfl ?_
  refine zz_pput (pc := 41) C in_X1_init_X1 2 (by decide) (by decide) (by decide) fl_X1_init_33 dX1_init_41 rfl rfl ?_
  refine zz_aload_n (pc := 44) C dX1_init_44 rfl ?_
  refine zz_iload_n (pc := 45) C dX1_init_45 rfl ?_
  refine zz_pput (pc := 46) C in_X1_init_X1 3 (by decide) (by decide) (by decide) fl_X1_init_36 dX1_init_46 rfl rfl ?_
  exact zz_return (pc := 49) C dX1_init_49 (Nat.le_refl _) (Nat.le_refl _) ⟨rfl, rfl⟩
