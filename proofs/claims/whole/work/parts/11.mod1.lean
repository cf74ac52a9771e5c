section ZDR
variable {p : Program} {l : Launch} {e : Env} {R : Room} {s : State} {m : MethodId} {args : Array Value} {below : List Frame} {meth : Method} {c : Code} {D : va_G} {A : Nat → Prop} {cells slots : Nat} {Q : State → Prop} {G : zG} {pc : Nat} {L : List (Option Value)} {st : List Value}
variable {cc : ByteArray} {nL : Nat} {own : String} {Ts : List Cond} {ret : Option FieldType}
theorem zz_irem (C : zC p s m args meth c D A cc nL own Ts ret) {x y : Int32} {a d : Nat} (hdg : decode cc pc = .ok (.irem, 1)) (hx : x = nI a) (hy : y = nI d) (ha : a < 2 ^ 31) (h0 : 0 < d) (hd : d < 2 ^ 31) (kk : zV p l e R s m args below meth c D A cells slots Q G (pc + 1) L (.int (nI (a % d)) :: st)) : zV p l e R s m args below meth c D A cells slots Q G pc L (.int y :: .int x :: st) := fun H locs ls hP hS hG hL9 => by
  have k1 := kk H locs ls hP hS hG hL9
  rw [← pk_rem ha h0 hd, ← hx, ← hy] at k1
  exact lv_irem C.1.1 C.1.2.1 hdg (by rw [hy]; exact nI_ne0 h0 hd) k1
theorem zz_idiv (C : zC p s m args meth c D A cc nL own Ts ret) {x y : Int32} {a d : Nat} (hdg : decode cc pc = .ok (.idiv, 1)) (hx : x = nI a) (hy : y = nI d) (ha : a < 2 ^ 31) (h0 : 0 < d) (hd : d < 2 ^ 31) (kk : zV p l e R s m args below meth c D A cells slots Q G (pc + 1) L (.int (nI (a / d)) :: st)) : zV p l e R s m args below meth c D A cells slots Q G pc L (.int y :: .int x :: st) := fun H locs ls hP hS hG hL9 => by
  have k1 := kk H locs ls hP hS hG hL9
  rw [← pk_div ha h0 hd, ← hx, ← hy] at k1
  exact lv_idiv C.1.1 C.1.2.1 hdg (by rw [hy]; exact nI_ne0 h0 hd) k1
end ZDR
theorem zvi {x y : Int32} (h : x = y) : (some (Value.int x)) = some (Value.int y) := by rw [h]
theorem z40 {i : Nat} (h : i ≤ 40) : ¬ (40 : Int32) < nI i := nI_nlt (a := 40) (b := i) h (by decide)
theorem z41 : (40 : Int32) < nI 41 := by decide
theorem z1i (i : Nat) : nI i + Int32.ofInt 1 = nI (i + 1) := nI_1 i
theorem zAll_succ {P : Nat → Prop} {n : Nat} : (∀ k, k < n + 1 → P k) ↔ (∀ k, k < n → P k) ∧ P n := ⟨fun h => ⟨fun k hk => h k (by omega), h n (by omega)⟩, fun h k hk => by
  rcases Nat.lt_succ_iff_lt_or_eq.mp hk with h1 | h1
  · exact h.1 k h1
  · rw [h1]; exact h.2⟩
theorem zMemL_succ {σ : zS} {g : Int32} {n : Nat} : zMemL σ g (n + 1) = zMemL σ g n ++ (if zMem σ n g then [n] else []) := by
  unfold zMemL
  rw [List.range_succ, List.filter_append]
  congr 1
  by_cases h : zMem σ n g
  · rw [if_pos h, List.filter_cons, if_pos (decide_eq_true h), List.filter_nil]
  · rw [if_neg h, List.filter_cons, if_neg (by rw [decide_eq_true_eq]; exact h), List.filter_nil]
theorem zOrphN_succ {σ : zS} {g : Int32} {n : Nat} : zOrphN σ g (n + 1) ↔ zOrphN σ g n ∧ ¬ (zAtt σ n ∧ σ 2 n = g) := zAll_succ
theorem zStopd_succ {σ : zS} {g : Int32} {n : Nat} : zStopd σ g (n + 1) ↔ zStopd σ g n ∨ (zMem σ n g ∧ σ 5 n ≠ 0) := by
  unfold zStopd
  rw [zAll_succ]
  constructor
  · intro h
    by_cases h2 : zMem σ n g ∧ σ 5 n ≠ 0
    · exact Or.inr h2
    · exact Or.inl (fun q => h ⟨q, h2⟩)
  · rintro (h | h) q
    · exact h q.1
    · exact q.2 h
theorem zSends_succ {σ : zS} {g : Int32} {s n : Nat} : zSends σ g s (n + 1) = zSends σ g s n ++ (if zMem σ n g then [(s, n)] else []) := by
  unfold zSends
  rw [zMemL_succ, List.map_append]
  congr 1
  split <;> rfl
theorem zMemL_no {σ : zS} {g : Int32} {n : Nat} (h : ¬ zMem σ n g) : zMemL σ g (n + 1) = zMemL σ g n := by
  rw [zMemL_succ]
  split
  · rename_i h2; exact absurd h2 h
  · exact List.append_nil _
theorem zMemL_yes {σ : zS} {g : Int32} {n : Nat} (h : zMem σ n g) : zMemL σ g (n + 1) = zMemL σ g n ++ [n] := by
  rw [zMemL_succ]
  split
  · rfl
  · rename_i h2; exact absurd h h2
theorem zSends_no {σ : zS} {g : Int32} {s n : Nat} (h : ¬ zMem σ n g) : zSends σ g s (n + 1) = zSends σ g s n := by unfold zSends; rw [zMemL_no h]
theorem zSends_yes {σ : zS} {g : Int32} {s n : Nat} (h : zMem σ n g) : zSends σ g s (n + 1) = zSends σ g s n ++ [(s, n)] := by unfold zSends; rw [zMemL_yes h, List.map_append]; rfl
theorem fl_X3_thrown_90 : Cond.fieldLink RX3 90 "SignalpostModel" "thrown" "I" ∈ wsX3_thrown := by decide +kernel
theorem in_X3_thrown_X3 : ∀ w ∈ u_ws RX3 TX3 29, w ∈ wsX3_thrown := by decide +kernel
set_option maxHeartbeats 4000000 in
set_option maxRecDepth 100000 in
theorem c_X3_thrown (l : Launch) (D : va_G) {B G : zG} {y : Nat} {ma : Nat → Nat} {r : zS}  (hR : zModR B y ma r G)  : zMet D l yX3_thrown wsX3_thrown ({ frames := 0, cells := 0, slots := 0, locals := 0 } : Room) [.ref y] G (fun v G9 => v = some (.int (r 23 0)) ∧ G9 = G) := by
  refine zMet_of (cc := cX3_thrown) (maxL := 1) (ret := (some .int)) (by decide) rfl (Nat.le_of_ble_eq_true rfl) ?_
  intro p e s m args below meth c C hmn
  refine zz_aload_n (pc := 0) C dX3_thrown_0 rfl ?_
  refine zz_get (pc := 1) C in_X3_thrown_X3 (ci := 3) rfl 23 (by decide) (fl_X3_thrown_90) rfl dX3_thrown_1 hR.2.1 rfl ?_
  exact zz_ireturn (pc := 4) C dX3_thrown_4 rfl (Nat.le_refl _) (Nat.le_refl _) ⟨rfl, rfl⟩
theorem fl_X3_fails_90 : Cond.fieldLink RX3 90 "SignalpostModel" "thrown" "I" ∈ wsX3_fails := by decide +kernel
theorem in_X3_fails_X3 : ∀ w ∈ u_ws RX3 TX3 29, w ∈ wsX3_fails := by decide +kernel
set_option maxHeartbeats 4000000 in
set_option maxRecDepth 100000 in
theorem c_X3_fails (l : Launch) (D : va_G) {B G : zG} {y : Nat} {ma : Nat → Nat} {r : zS} {w : Int32} (hR : zModR B y ma r G)  : zMet D l yX3_fails wsX3_fails ({ frames := 0, cells := 0, slots := 0, locals := 0 } : Room) [.ref y, .int w] G (fun v G9 => v = some (.int (zb (0 < w))) ∧ zModR B y ma (zu r 23 0 w) G9) := by
  refine zMet_of (cc := cX3_fails) (maxL := 2) (ret := (some .boolean)) (by decide) rfl (Nat.le_of_ble_eq_true rfl) ?_
  intro p e s m args below meth c C hmn
  refine zz_aload_n (pc := 0) C dX3_fails_0 rfl ?_
  refine zz_iload_n (pc := 1) C dX3_fails_1 rfl ?_
  refine zz_mput (pc := 2) C in_X3_fails_X3 hR 23 (by decide) fl_X3_fails_90 dX3_fails_2 (fun G hR => ?_)
  refine zz_iload_n (pc := 5) C dX3_fails_5 rfl ?_
  refine zz_if_le (pc := 6) C (tgt := 13) dX3_fails_6 (by decide) (fun hc6 => ?_) (fun hc6 => ?_)
  · refine zz_iconst (pc := 13) C (v := 0) (by decide) dX3_fails_13 ?_
    exact zz_ireturn (pc := 14) C dX3_fails_14 (by decide) (Nat.le_refl _) (Nat.le_refl _) ⟨by first | exact zvt (by simp_all) | exact zvf (by simp_all), hR⟩
  · refine zz_iconst (pc := 9) C (v := 1) (by decide) dX3_fails_9 ?_
    refine zz_goto (pc := 10) C (tgt := 14) dX3_fails_10 (by decide) ?_
    exact zz_ireturn (pc := 14) C dX3_fails_14 (by decide) (Nat.le_refl _) (Nat.le_refl _) ⟨by first | exact zvt (by simp_all) | exact zvf (by simp_all), hR⟩
theorem fl_X3_tells_90 : Cond.fieldLink RX3 90 "SignalpostModel" "thrown" "I" ∈ wsX3_tells := by decide +kernel
theorem in_X3_tells_X3 : ∀ w ∈ u_ws RX3 TX3 29, w ∈ wsX3_tells := by decide +kernel
set_option maxHeartbeats 4000000 in
set_option maxRecDepth 100000 in
theorem c_X3_tells (l : Launch) (D : va_G) {B G : zG} {y : Nat} {ma : Nat → Nat} {r : zS} {w : Int32} (hR : zModR B y ma r G)  : zMet D l yX3_tells wsX3_tells ({ frames := 0, cells := 0, slots := 0, locals := 0 } : Room) [.ref y, .int w] G (fun v G9 => v = some (.int w) ∧ zModR B y ma (zu r 23 0 0) G9) := by
  refine zMet_of (cc := cX3_tells) (maxL := 2) (ret := (some .int)) (by decide) rfl (Nat.le_of_ble_eq_true rfl) ?_
  intro p e s m args below meth c C hmn
  refine zz_aload_n (pc := 0) C dX3_tells_0 rfl ?_
  refine zz_iconst (pc := 1) C (v := 0) (by decide) dX3_tells_1 ?_
  refine zz_mput (pc := 2) C in_X3_tells_X3 hR 23 (by decide) fl_X3_tells_90 dX3_tells_2 (fun G hR => ?_)
  refine zz_iload_n (pc := 5) C dX3_tells_5 rfl ?_
  exact zz_ireturn (pc := 6) C dX3_tells_6 rfl (Nat.le_refl _) (Nat.le_refl _) ⟨rfl, hR⟩
theorem zin40 {x : Int32} (h0 : ¬ x ≤ 0) (h1 : ¬ (40 : Int32) < x) : x = nI (pn x) ∧ pn x < 41 := by
  have a0 : ¬ x < 0 := fun q => h0 (Int32.le_of_lt q)
  obtain ⟨j, hj, rfl⟩ := nI_of a0
  have e : pn (nI j) = j := nI_clamp hj
  have h2 : nI j ≤ nI 40 := Int32.not_lt.mp h1
  have := (nI_leI hj (by decide)).mp h2
  rw [e]
  exact ⟨rfl, by omega⟩
theorem fl_X3_is_7 : Cond.fieldLink RX3 7 "SignalpostModel" "isThere" "[Z" ∈ wsX3_is := by decide +kernel
theorem in_X3_is_X3 : ∀ w ∈ u_ws RX3 TX3 29, w ∈ wsX3_is := by decide +kernel
set_option maxHeartbeats 4000000 in
set_option maxRecDepth 100000 in
theorem c_X3_is (l : Launch) (D : va_G) {B G : zG} {y : Nat} {ma : Nat → Nat} {r : zS} {x : Int32} (hR : zModR B y ma r G)  : zMet D l yX3_is wsX3_is ({ frames := 0, cells := 0, slots := 0, locals := 0 } : Room) [.ref y, .int x] G (fun v G9 => v = some (.int (zb (0 < x ∧ x ≤ 40 ∧ r 0 (pn x) ≠ 0))) ∧ G9 = G) := by
  refine zMet_of (cc := cX3_is) (maxL := 2) (ret := (some .boolean)) (by decide) rfl (Nat.le_of_ble_eq_true rfl) ?_
  intro p e s m args below meth c C hmn
  refine zz_iload_n (pc := 0) C dX3_is_0 rfl ?_
  refine zz_if_le (pc := 1) C (tgt := 23) dX3_is_1 (by decide) (fun hc1 => ?_) (fun hc1 => ?_)
  · refine zz_iconst (pc := 23) C (v := 0) (by decide) dX3_is_23 ?_
    exact zz_ireturn (pc := 24) C dX3_is_24 (by decide) (Nat.le_refl _) (Nat.le_refl _) ⟨by first | exact zvf (fun q => absurd q.1 (Int32.not_lt.mpr hc1)) | exact zvf (fun q => absurd q.2.1 (Int32.not_le.mpr hc7)) | exact zvf (fun q => q.2.2 hc16) | exact zvt ⟨Int32.not_le.mp hc1, Int32.not_lt.mp hc7, hc16⟩, rfl⟩
  · refine zz_iload_n (pc := 4) C dX3_is_4 rfl ?_
    refine zz_bipush (pc := 5) C (v := 40) (by decide) dX3_is_5 ?_
    refine zz_icmp_gt (pc := 7) C (tgt := 23) dX3_is_7 (by decide) (fun hc7 => ?_) (fun hc7 => ?_)
    · refine zz_iconst (pc := 23) C (v := 0) (by decide) dX3_is_23 ?_
      exact zz_ireturn (pc := 24) C dX3_is_24 (by decide) (Nat.le_refl _) (Nat.le_refl _) ⟨by first | exact zvf (fun q => absurd q.1 (Int32.not_lt.mpr hc1)) | exact zvf (fun q => absurd q.2.1 (Int32.not_le.mpr hc7)) | exact zvf (fun q => q.2.2 hc16) | exact zvt ⟨Int32.not_le.mp hc1, Int32.not_lt.mp hc7, hc16⟩, rfl⟩
    · refine zz_aload_n (pc := 10) C dX3_is_10 rfl ?_
      refine zz_get (pc := 11) C in_X3_is_X3 (ci := 3) rfl 0 (by decide) (fl_X3_is_7) rfl dX3_is_11 hR.2.1 rfl ?_
      refine zz_iload_n (pc := 14) C dX3_is_14 rfl ?_
      refine zz_mldz (pc := 15) C hR 0 (by decide) rfl dX3_is_15 (zin40 hc1 hc7).1 (by show _ < 41; exact (zin40 hc1 hc7).2) ?_
      refine zz_if_eq (pc := 16) C (tgt := 23) dX3_is_16 (by decide) (fun hc16 => ?_) (fun hc16 => ?_)
      · refine zz_iconst (pc := 23) C (v := 0) (by decide) dX3_is_23 ?_
        exact zz_ireturn (pc := 24) C dX3_is_24 (by decide) (Nat.le_refl _) (Nat.le_refl _) ⟨by first | exact zvf (fun q => absurd q.1 (Int32.not_lt.mpr hc1)) | exact zvf (fun q => absurd q.2.1 (Int32.not_le.mpr hc7)) | exact zvf (fun q => q.2.2 hc16) | exact zvt ⟨Int32.not_le.mp hc1, Int32.not_lt.mp hc7, hc16⟩, rfl⟩
      · refine zz_iconst (pc := 19) C (v := 1) (by decide) dX3_is_19 ?_
        refine zz_goto (pc := 20) C (tgt := 24) dX3_is_20 (by decide) ?_
        exact zz_ireturn (pc := 24) C dX3_is_24 (by decide) (Nat.le_refl _) (Nat.le_refl _) ⟨by first | exact zvf (fun q => absurd q.1 (Int32.not_lt.mpr hc1)) | exact zvf (fun q => absurd q.2.1 (Int32.not_le.mpr hc7)) | exact zvf (fun q => q.2.2 hc16) | exact zvt ⟨Int32.not_le.mp hc1, Int32.not_lt.mp hc7, hc16⟩, rfl⟩
theorem fl_X3_isMember_7 : Cond.fieldLink RX3 7 "SignalpostModel" "isThere" "[Z" ∈ wsX3_isMember := by decide +kernel
theorem fl_X3_isMember_23 : Cond.fieldLink RX3 23 "SignalpostModel" "isZombie" "[Z" ∈ wsX3_isMember := by decide +kernel
theorem fl_X3_isMember_17 : Cond.fieldLink RX3 17 "SignalpostModel" "group" "[I" ∈ wsX3_isMember := by decide +kernel
theorem in_X3_isMember_X3 : ∀ w ∈ u_ws RX3 TX3 29, w ∈ wsX3_isMember := by decide +kernel
set_option maxHeartbeats 4000000 in
set_option maxRecDepth 100000 in
theorem c_X3_isMember (l : Launch) (D : va_G) {B G : zG} {y : Nat} {ma : Nat → Nat} {r : zS} {k : Nat} {g : Int32} (hR : zModR B y ma r G) (hk : k < 41) : zMet D l yX3_isMember wsX3_isMember ({ frames := 0, cells := 0, slots := 0, locals := 0 } : Room) [.ref y, .int (nI k), .int g] G (fun v G9 => v = some (.int (zb (zMem r k g))) ∧ G9 = G) := by
  refine zMet_of (cc := cX3_isMember) (maxL := 3) (ret := (some .boolean)) (by decide) rfl (Nat.le_of_ble_eq_true rfl) ?_
  intro p e s m args below meth c C hmn
  refine zz_aload_n (pc := 0) C dX3_isMember_0 rfl ?_
  refine zz_get (pc := 1) C in_X3_isMember_X3 (ci := 3) rfl 0 (by decide) (fl_X3_isMember_7) rfl dX3_isMember_1 hR.2.1 rfl ?_
  refine zz_iload_n (pc := 4) C dX3_isMember_4 rfl ?_
  refine zz_mldz (pc := 5) C hR 0 (by decide) rfl dX3_isMember_5 rfl (by show _ < 41; omega) ?_
  refine zz_if_eq (pc := 6) C (tgt := 32) dX3_isMember_6 (by decide) (fun hc6 => ?_) (fun hc6 => ?_)
  · refine zz_iconst (pc := 32) C (v := 0) (by decide) dX3_isMember_32 ?_
    exact zz_ireturn (pc := 33) C dX3_isMember_33 (by decide) (Nat.le_refl _) (Nat.le_refl _) ⟨by first | exact zvt (by simp_all [zMem]) | exact zvf (by simp_all [zMem]), rfl⟩
  · refine zz_aload_n (pc := 9) C dX3_isMember_9 rfl ?_
    refine zz_get (pc := 10) C in_X3_isMember_X3 (ci := 3) rfl 4 (by decide) (fl_X3_isMember_23) rfl dX3_isMember_10 hR.2.1 rfl ?_
    refine zz_iload_n (pc := 13) C dX3_isMember_13 rfl ?_
    refine zz_mldz (pc := 14) C hR 4 (by decide) rfl dX3_isMember_14 rfl (by show _ < 41; omega) ?_
    refine zz_if_ne (pc := 15) C (tgt := 32) dX3_isMember_15 (by decide) (fun hc15 => ?_) (fun hc15 => ?_)
    · refine zz_iconst (pc := 32) C (v := 0) (by decide) dX3_isMember_32 ?_
      exact zz_ireturn (pc := 33) C dX3_isMember_33 (by decide) (Nat.le_refl _) (Nat.le_refl _) ⟨by first | exact zvt (by simp_all [zMem]) | exact zvf (by simp_all [zMem]), rfl⟩
    · refine zz_aload_n (pc := 18) C dX3_isMember_18 rfl ?_
      refine zz_get (pc := 19) C in_X3_isMember_X3 (ci := 3) rfl 2 (by decide) (fl_X3_isMember_17) rfl dX3_isMember_19 hR.2.1 rfl ?_
      refine zz_iload_n (pc := 22) C dX3_isMember_22 rfl ?_
      refine zz_mld (pc := 23) C hR 2 (by decide) rfl dX3_isMember_23 rfl (by show _ < 41; omega) ?_
      refine zz_iload_n (pc := 24) C dX3_isMember_24 rfl ?_
      refine zz_icmp_ne (pc := 25) C (tgt := 32) dX3_isMember_25 (by decide) (fun hc25 => ?_) (fun hc25 => ?_)
      · refine zz_iconst (pc := 32) C (v := 0) (by decide) dX3_isMember_32 ?_
        exact zz_ireturn (pc := 33) C dX3_isMember_33 (by decide) (Nat.le_refl _) (Nat.le_refl _) ⟨by first | exact zvt (by simp_all [zMem]) | exact zvf (by simp_all [zMem]), rfl⟩
      · refine zz_iconst (pc := 28) C (v := 1) (by decide) dX3_isMember_28 ?_
        refine zz_goto (pc := 29) C (tgt := 33) dX3_isMember_29 (by decide) ?_
        exact zz_ireturn (pc := 33) C dX3_isMember_33 (by decide) (Nat.le_refl _) (Nat.le_refl _) ⟨by first | exact zvt (by simp_all [zMem]) | exact zvf (by simp_all [zMem]), rfl⟩
theorem fl_X3_isRunning_23 : Cond.fieldLink RX3 23 "SignalpostModel" "isZombie" "[Z" ∈ wsX3_isRunning := by decide +kernel
theorem fl_X3_isRunning_26 : Cond.fieldLink RX3 26 "SignalpostModel" "isStopped" "[Z" ∈ wsX3_isRunning := by decide +kernel
theorem fl_X3_isRunning_29 : Cond.fieldLink RX3 29 "SignalpostModel" "isWaiting" "[Z" ∈ wsX3_isRunning := by decide +kernel
theorem in_X3_isRunning_X3 : ∀ w ∈ u_ws RX3 TX3 29, w ∈ wsX3_isRunning := by decide +kernel
set_option maxHeartbeats 4000000 in
set_option maxRecDepth 100000 in
theorem c_X3_isRunning (l : Launch) (D : va_G) {B G : zG} {y : Nat} {ma : Nat → Nat} {r : zS} {k : Nat} (hR : zModR B y ma r G) (hk : k < 41) : zMet D l yX3_isRunning wsX3_isRunning ({ frames := 0, cells := 0, slots := 0, locals := 0 } : Room) [.ref y, .int (nI k)] G (fun v G9 => v = some (.int (zb (r 4 k = 0 ∧ r 5 k = 0 ∧ r 6 k = 0))) ∧ G9 = G) := by
  refine zMet_of (cc := cX3_isRunning) (maxL := 2) (ret := (some .boolean)) (by decide) rfl (Nat.le_of_ble_eq_true rfl) ?_
  intro p e s m args below meth c C hmn
  refine zz_aload_n (pc := 0) C dX3_isRunning_0 rfl ?_
  refine zz_get (pc := 1) C in_X3_isRunning_X3 (ci := 3) rfl 4 (by decide) (fl_X3_isRunning_23) rfl dX3_isRunning_1 hR.2.1 rfl ?_
  refine zz_iload_n (pc := 4) C dX3_isRunning_4 rfl ?_
  refine zz_mldz (pc := 5) C hR 4 (by decide) rfl dX3_isRunning_5 rfl (by show _ < 41; omega) ?_
  refine zz_if_ne (pc := 6) C (tgt := 31) dX3_isRunning_6 (by decide) (fun hc6 => ?_) (fun hc6 => ?_)
  · refine zz_iconst (pc := 31) C (v := 0) (by decide) dX3_isRunning_31 ?_
    exact zz_ireturn (pc := 32) C dX3_isRunning_32 (by decide) (Nat.le_refl _) (Nat.le_refl _) ⟨by first | exact zvt (by simp_all) | exact zvf (by simp_all), rfl⟩
  · refine zz_aload_n (pc := 9) C dX3_isRunning_9 rfl ?_
    refine zz_get (pc := 10) C in_X3_isRunning_X3 (ci := 3) rfl 5 (by decide) (fl_X3_isRunning_26) rfl dX3_isRunning_10 hR.2.1 rfl ?_
    refine zz_iload_n (pc := 13) C dX3_isRunning_13 rfl ?_
    refine zz_mldz (pc := 14) C hR 5 (by decide) rfl dX3_isRunning_14 rfl (by show _ < 41; omega) ?_
    refine zz_if_ne (pc := 15) C (tgt := 31) dX3_isRunning_15 (by decide) (fun hc15 => ?_) (fun hc15 => ?_)
    · refine zz_iconst (pc := 31) C (v := 0) (by decide) dX3_isRunning_31 ?_
      exact zz_ireturn (pc := 32) C dX3_isRunning_32 (by decide) (Nat.le_refl _) (Nat.le_refl _) ⟨by first | exact zvt (by simp_all) | exact zvf (by simp_all), rfl⟩
    · refine zz_aload_n (pc := 18) C dX3_isRunning_18 rfl ?_
      refine zz_get (pc := 19) C in_X3_isRunning_X3 (ci := 3) rfl 6 (by decide) (fl_X3_isRunning_29) rfl dX3_isRunning_19 hR.2.1 rfl ?_
      refine zz_iload_n (pc := 22) C dX3_isRunning_22 rfl ?_
      refine zz_mldz (pc := 23) C hR 6 (by decide) rfl dX3_isRunning_23 rfl (by show _ < 41; omega) ?_
      refine zz_if_ne (pc := 24) C (tgt := 31) dX3_isRunning_24 (by decide) (fun hc24 => ?_) (fun hc24 => ?_)
      · refine zz_iconst (pc := 31) C (v := 0) (by decide) dX3_isRunning_31 ?_
        exact zz_ireturn (pc := 32) C dX3_isRunning_32 (by decide) (Nat.le_refl _) (Nat.le_refl _) ⟨by first | exact zvt (by simp_all) | exact zvf (by simp_all), rfl⟩
      · refine zz_iconst (pc := 27) C (v := 1) (by decide) dX3_isRunning_27 ?_
        refine zz_goto (pc := 28) C (tgt := 32) dX3_isRunning_28 (by decide) ?_
        exact zz_ireturn (pc := 32) C dX3_isRunning_32 (by decide) (Nat.le_refl _) (Nat.le_refl _) ⟨by first | exact zvt (by simp_all) | exact zvf (by simp_all), rfl⟩

set_option maxHeartbeats 4000000 in
set_option maxRecDepth 100000 in
theorem c_X3_cannot (l : Launch) (D : va_G) {B G : zG} {y : Nat} {ma : Nat → Nat} {r : zS} {k : Nat} (hR : zModR B y ma r G) (hk : k < 41) : zMet D l yX3_cannot wsX3_cannot ({ frames := 1, cells := 0, slots := 0, locals := 21 } : Room) [.ref y, .int (nI k)] G (fun v G9 => v = some (.int (zb (k = 1 ∨ ¬ (r 4 k = 0 ∧ r 5 k = 0 ∧ r 6 k = 0)))) ∧ G9 = G) := by
  refine zMet_of (cc := cX3_cannot) (maxL := 2) (ret := (some .boolean)) (by decide) rfl (Nat.le_of_ble_eq_true rfl) ?_
  intro p e s m args below meth c C hmn
  refine zz_iload_n (pc := 0) C dX3_cannot_0 rfl ?_
  refine zz_iconst (pc := 1) C (v := 1) (by decide) dX3_cannot_1 ?_
  refine zz_icmp_eq (pc := 2) C (tgt := 13) dX3_cannot_2 (by decide) (fun hc2 => ?_) (fun hc2 => ?_)
  · refine zz_iconst (pc := 13) C (v := 1) (by decide) dX3_cannot_13 ?_
    refine zz_goto (pc := 14) C (tgt := 18) dX3_cannot_14 (by decide) ?_
    exact zz_ireturn (pc := 18) C dX3_cannot_18 (by decide) (Nat.le_refl _) (Nat.le_refl _) ⟨by first | exact zvt (Or.inl ((nI_eq (show k < 2 ^ 31 by omega) (by decide)).mp (show nI k = nI 1 from hc2))) | exact zvt (Or.inr (zb_eq.mp (Classical.not_not.mp hc10))) | exact zvf (fun q => q.elim hn1 (fun z => z (zb_ne.mp hc10))), rfl⟩
  · refine zz_aload_n (pc := 5) C dX3_cannot_5 rfl ?_
    refine zz_iload_n (pc := 6) C dX3_cannot_6 rfl ?_
    refine zz_callV (pc := 7) C (c_X3_isRunning l D hR hk) gX3_cannot_X3_isRunning rfl 1 (by decide +kernel) ⟨Nat.le_of_ble_eq_true rfl, Nat.le_of_ble_eq_true rfl⟩ hR.2.1 (ci := 3) rfl rfl rfl dX3_cannot_7 rfl (Nat.le_of_ble_eq_true rfl) rfl ⟨Nat.le_of_ble_eq_true rfl, Nat.le_of_ble_eq_true rfl⟩ ?_
    rintro v G9 ⟨rfl, rfl⟩
    have hn1 : k ≠ 1 := fun q => hc2 (by rw [q]; rfl)
    refine zz_if_ne (pc := 10) C (tgt := 17) dX3_cannot_10 (by decide) (fun hc10 => ?_) (fun hc10 => ?_)
    · refine zz_iconst (pc := 17) C (v := 0) (by decide) dX3_cannot_17 ?_
      exact zz_ireturn (pc := 18) C dX3_cannot_18 (by decide) (Nat.le_refl _) (Nat.le_refl _) ⟨by first | exact zvt (Or.inl ((nI_eq (show k < 2 ^ 31 by omega) (by decide)).mp (show nI k = nI 1 from hc2))) | exact zvt (Or.inr (zb_eq.mp (Classical.not_not.mp hc10))) | exact zvf (fun q => q.elim hn1 (fun z => z (zb_ne.mp hc10))), rfl⟩
    · refine zz_iconst (pc := 13) C (v := 1) (by decide) dX3_cannot_13 ?_
      refine zz_goto (pc := 14) C (tgt := 18) dX3_cannot_14 (by decide) ?_
      exact zz_ireturn (pc := 18) C dX3_cannot_18 (by decide) (Nat.le_refl _) (Nat.le_refl _) ⟨by first | exact zvt (Or.inl ((nI_eq (show k < 2 ^ 31 by omega) (by decide)).mp (show nI k = nI 1 from hc2))) | exact zvt (Or.inr (zb_eq.mp (Classical.not_not.mp hc10))) | exact zvf (fun q => q.elim hn1 (fun z => z (zb_ne.mp hc10))), rfl⟩
theorem fl_X3_orphaned_13 : Cond.fieldLink RX3 13 "SignalpostModel" "parent" "[I" ∈ wsX3_orphaned := by decide +kernel
theorem fl_X3_orphaned_23 : Cond.fieldLink RX3 23 "SignalpostModel" "isZombie" "[Z" ∈ wsX3_orphaned := by decide +kernel
theorem fl_X3_orphaned_20 : Cond.fieldLink RX3 20 "SignalpostModel" "session" "[I" ∈ wsX3_orphaned := by decide +kernel
theorem fl_X3_orphaned_17 : Cond.fieldLink RX3 17 "SignalpostModel" "group" "[I" ∈ wsX3_orphaned := by decide +kernel
theorem in_X3_orphaned_X3 : ∀ w ∈ u_ws RX3 TX3 29, w ∈ wsX3_orphaned := by decide +kernel
set_option maxHeartbeats 4000000 in
set_option maxRecDepth 100000 in
theorem c_X3_orphaned (l : Launch) (D : va_G) {B G : zG} {y : Nat} {ma : Nat → Nat} {r : zS} {g : Int32} (hR : zModR B y ma r G) (h00 : r 0 0 = 0) (hpar : ∀ k, k < 41 → r 0 k ≠ 0 → r 4 k = 0 → k ≠ 1 → ∃ j, j < 41 ∧ r 1 k = nI j) : zMet D l yX3_orphaned wsX3_orphaned ({ frames := 1, cells := 0, slots := 0, locals := 22 } : Room) [.ref y, .int g] G (fun v G9 => v = some (.int (zb (zOrph r g))) ∧ G9 = G) := by
  refine zMet_of (cc := cX3_orphaned) (maxL := 5) (ret := (some .boolean)) (by decide) rfl (Nat.le_of_ble_eq_true rfl) ?_
  intro p e s m args below meth c C hmn
  have loop : ∀ (n i : Nat), i + n = 41 → 1 ≤ i → zV p l e ({ frames := 1, cells := 0, slots := 0, locals := 22 } : Room) s m args below meth c D (zA G s.heap.size) 0 0 (zZ below D G (fun v G9 => v = some (.int (zb (zOrph r g))) ∧ G9 = G) args s ({ frames := 1, cells := 0, slots := 0, locals := 22 } : Room)) G 4 [some (.ref y), some (.int g), some (.int (zb (zOrphN r g i))), some (.int (nI i)), none] [] := by
    intro n
    induction n with
    | zero =>
      intro i hi h1
      have hi41 : i = 41 := by omega
      subst hi41
      refine zz_iload_n (pc := 4) C dX3_orphaned_4 rfl ?_
      refine zz_bipush (pc := 5) C (v := 40) (by decide) dX3_orphaned_5 ?_
      refine zz_icmp_gt (pc := 7) C (tgt := 85) dX3_orphaned_7 (by decide) (fun hc7 => ?_) (fun hc7 => ?_)
      · refine zz_iload_n (pc := 85) C dX3_orphaned_85 rfl ?_
        exact zz_ireturn (pc := 86) C dX3_orphaned_86 zb_nar (Nat.le_refl _) (Nat.le_refl _) ⟨rfl, rfl⟩
      · exact absurd z41 hc7
    | succ n ih =>
      intro i hi h1
      refine zz_iload_n (pc := 4) C dX3_orphaned_4 rfl ?_
      refine zz_bipush (pc := 5) C (v := 40) (by decide) dX3_orphaned_5 ?_
      refine zz_icmp_gt (pc := 7) C (tgt := 85) dX3_orphaned_7 (by decide) (fun hc7 => ?_) (fun hc7 => ?_)
      · exact absurd hc7 (z40 (by omega))
      · refine zz_aload_n (pc := 10) C dX3_orphaned_10 rfl ?_
        refine zz_iload_n (pc := 11) C dX3_orphaned_11 rfl ?_
        refine zz_iload_n (pc := 12) C dX3_orphaned_12 rfl ?_
        refine zz_callV (pc := 13) C (c_X3_isMember l D hR (k := i) (g := g) (by omega)) gX3_orphaned_X3_isMember rfl 2 (by decide +kernel) ⟨Nat.le_of_ble_eq_true rfl, Nat.le_of_ble_eq_true rfl⟩ hR.2.1 (ci := 3) rfl rfl rfl dX3_orphaned_13 rfl (Nat.le_of_ble_eq_true rfl) rfl ⟨Nat.le_of_ble_eq_true rfl, Nat.le_of_ble_eq_true rfl⟩ ?_
        rintro v G9 ⟨rfl, rfl⟩
        refine zz_if_eq (pc := 16) C (tgt := 79) dX3_orphaned_16 (by decide) (fun hc16 => ?_) (fun hc16 => ?_)
        · refine zz_iinc (pc := 79) C dX3_orphaned_79 rfl ?_
          refine zz_goto (pc := 82) C (tgt := 4) dX3_orphaned_82 (by decide) ?_
          first
            | exact zV.less (L' := [some (.ref y), some (.int g), some (.int (zb (zOrphN r g (i + 1)))), some (.int (nI (i + 1))), none]) ⟨rfl, rfl, zvi (zb_congr (zOrphN_succ.trans ⟨fun h => h.1, fun h => ⟨h, fun q => (zb_eq.mp hc16) ⟨q.1.1, q.1.2.1, q.2⟩⟩⟩).symm), zvi (z1i i), trivial⟩ (ih (i + 1) (by omega) (by omega))
            | exact zV.less (L' := [some (.ref y), some (.int g), some (.int (zb (zOrphN r g (i + 1)))), some (.int (nI (i + 1))), none]) ⟨rfl, rfl, zvi (zb_congr (zOrphN_succ.trans ⟨fun h => h.1, fun h => ⟨h, fun q => q.1.2.2.1 ((nI_eq (by omega) (by decide)).mp (show nI i = nI 1 from hc21))⟩⟩).symm), zvi (z1i i), trivial⟩ (ih (i + 1) (by omega) (by omega))
            | exact zV.less (L' := [some (.ref y), some (.int g), some (.int (zb (zOrphN r g (i + 1)))), some (.int (nI (i + 1))), none]) ⟨rfl, rfl, zvf (fun h => zb_eq.mp hc33 (zOrphN_succ.mp h).1), zvi (z1i i), trivial⟩ (ih (i + 1) (by omega) (by omega))
            | exact zV.less (L' := [some (.ref y), some (.int g), some (.int (zb (zOrphN r g (i + 1)))), some (.int (nI (i + 1))), none]) ⟨rfl, rfl, zvt (zOrphN_succ.mpr ⟨zb_ne.mp hc33, fun q => hc43 (by rw [← hpn]; exact q.1.2.2.2.1)⟩), zvi (z1i i), trivial⟩ (ih (i + 1) (by omega) (by omega))
            | exact zV.less (L' := [some (.ref y), some (.int g), some (.int (zb (zOrphN r g (i + 1)))), some (.int (nI (i + 1))), none]) ⟨rfl, rfl, zvt (zOrphN_succ.mpr ⟨zb_ne.mp hc33, fun q => hc59 (by rw [← hpn]; exact q.1.2.2.2.2.1)⟩), zvi (z1i i), trivial⟩ (ih (i + 1) (by omega) (by omega))
            | exact zV.less (L' := [some (.ref y), some (.int g), some (.int (zb (zOrphN r g (i + 1)))), some (.int (nI (i + 1))), none]) ⟨rfl, rfl, zvt (zOrphN_succ.mpr ⟨zb_ne.mp hc33, fun q => q.1.2.2.2.2.2 (by rw [hpn, hmem.2.2]; exact Classical.not_not.mp hc70)⟩), zvi (z1i i), trivial⟩ (ih (i + 1) (by omega) (by omega))
            | exact zV.less (L' := [some (.ref y), some (.int g), some (.int (zb (zOrphN r g (i + 1)))), some (.int (nI (i + 1))), none]) ⟨rfl, rfl, zvf (fun h => (zOrphN_succ.mp h).2 ⟨⟨hmem.1, hmem.2.1, hi1, by rw [hpn]; exact Classical.not_not.mp hc43, by rw [hpn]; exact Classical.not_not.mp hc59, by rw [hpn, hmem.2.2]; exact hc70⟩, hmem.2.2⟩), zvi (z1i i), trivial⟩ (ih (i + 1) (by omega) (by omega))
        · refine zz_iload_n (pc := 19) C dX3_orphaned_19 rfl ?_
          refine zz_iconst (pc := 20) C (v := 1) (by decide) dX3_orphaned_20 ?_
          refine zz_icmp_eq (pc := 21) C (tgt := 79) dX3_orphaned_21 (by decide) (fun hc21 => ?_) (fun hc21 => ?_)
          · refine zz_iinc (pc := 79) C dX3_orphaned_79 rfl ?_
            refine zz_goto (pc := 82) C (tgt := 4) dX3_orphaned_82 (by decide) ?_
            first
              | exact zV.less (L' := [some (.ref y), some (.int g), some (.int (zb (zOrphN r g (i + 1)))), some (.int (nI (i + 1))), none]) ⟨rfl, rfl, zvi (zb_congr (zOrphN_succ.trans ⟨fun h => h.1, fun h => ⟨h, fun q => (zb_eq.mp hc16) ⟨q.1.1, q.1.2.1, q.2⟩⟩⟩).symm), zvi (z1i i), trivial⟩ (ih (i + 1) (by omega) (by omega))
              | exact zV.less (L' := [some (.ref y), some (.int g), some (.int (zb (zOrphN r g (i + 1)))), some (.int (nI (i + 1))), none]) ⟨rfl, rfl, zvi (zb_congr (zOrphN_succ.trans ⟨fun h => h.1, fun h => ⟨h, fun q => q.1.2.2.1 ((nI_eq (by omega) (by decide)).mp (show nI i = nI 1 from hc21))⟩⟩).symm), zvi (z1i i), trivial⟩ (ih (i + 1) (by omega) (by omega))
              | exact zV.less (L' := [some (.ref y), some (.int g), some (.int (zb (zOrphN r g (i + 1)))), some (.int (nI (i + 1))), none]) ⟨rfl, rfl, zvf (fun h => zb_eq.mp hc33 (zOrphN_succ.mp h).1), zvi (z1i i), trivial⟩ (ih (i + 1) (by omega) (by omega))
              | exact zV.less (L' := [some (.ref y), some (.int g), some (.int (zb (zOrphN r g (i + 1)))), some (.int (nI (i + 1))), none]) ⟨rfl, rfl, zvt (zOrphN_succ.mpr ⟨zb_ne.mp hc33, fun q => hc43 (by rw [← hpn]; exact q.1.2.2.2.1)⟩), zvi (z1i i), trivial⟩ (ih (i + 1) (by omega) (by omega))
              | exact zV.less (L' := [some (.ref y), some (.int g), some (.int (zb (zOrphN r g (i + 1)))), some (.int (nI (i + 1))), none]) ⟨rfl, rfl, zvt (zOrphN_succ.mpr ⟨zb_ne.mp hc33, fun q => hc59 (by rw [← hpn]; exact q.1.2.2.2.2.1)⟩), zvi (z1i i), trivial⟩ (ih (i + 1) (by omega) (by omega))
              | exact zV.less (L' := [some (.ref y), some (.int g), some (.int (zb (zOrphN r g (i + 1)))), some (.int (nI (i + 1))), none]) ⟨rfl, rfl, zvt (zOrphN_succ.mpr ⟨zb_ne.mp hc33, fun q => q.1.2.2.2.2.2 (by rw [hpn, hmem.2.2]; exact Classical.not_not.mp hc70)⟩), zvi (z1i i), trivial⟩ (ih (i + 1) (by omega) (by omega))
              | exact zV.less (L' := [some (.ref y), some (.int g), some (.int (zb (zOrphN r g (i + 1)))), some (.int (nI (i + 1))), none]) ⟨rfl, rfl, zvf (fun h => (zOrphN_succ.mp h).2 ⟨⟨hmem.1, hmem.2.1, hi1, by rw [hpn]; exact Classical.not_not.mp hc43, by rw [hpn]; exact Classical.not_not.mp hc59, by rw [hpn, hmem.2.2]; exact hc70⟩, hmem.2.2⟩), zvi (z1i i), trivial⟩ (ih (i + 1) (by omega) (by omega))
          · have hmem : zMem r i g := zb_ne.mp hc16
            have hi1 : i ≠ 1 := fun q => hc21 (by rw [q]; rfl)
            obtain ⟨j, hj, hpj⟩ := hpar i (by omega) hmem.1 hmem.2.1 hi1
            have hpn : pn (r 1 i) = j := by rw [hpj]; exact nI_clamp (by omega)
            refine zz_aload_n (pc := 24) C dX3_orphaned_24 rfl ?_
            refine zz_get (pc := 25) C in_X3_orphaned_X3 (ci := 3) rfl 1 (by decide) (fl_X3_orphaned_13) rfl dX3_orphaned_25 hR.2.1 rfl ?_
            refine zz_iload_n (pc := 28) C dX3_orphaned_28 rfl ?_
            refine zz_mld (pc := 29) C hR 1 (by decide) rfl dX3_orphaned_29 rfl (by show _ < 41; omega) ?_
            refine zz_istore (pc := 30) C dX3_orphaned_30 (Nat.le_of_ble_eq_true rfl) ?_
            refine zz_iload_n (pc := 32) C dX3_orphaned_32 rfl ?_
            refine zz_if_eq (pc := 33) C (tgt := 77) dX3_orphaned_33 (by decide) (fun hc33 => ?_) (fun hc33 => ?_)
            · refine zz_iconst (pc := 77) C (v := 0) (by decide) dX3_orphaned_77 ?_
              refine zz_istore_n (pc := 78) C dX3_orphaned_78 (Nat.le_of_ble_eq_true rfl) ?_
              refine zz_iinc (pc := 79) C dX3_orphaned_79 rfl ?_
              refine zz_goto (pc := 82) C (tgt := 4) dX3_orphaned_82 (by decide) ?_
              first
                | exact zV.less (L' := [some (.ref y), some (.int g), some (.int (zb (zOrphN r g (i + 1)))), some (.int (nI (i + 1))), none]) ⟨rfl, rfl, zvi (zb_congr (zOrphN_succ.trans ⟨fun h => h.1, fun h => ⟨h, fun q => (zb_eq.mp hc16) ⟨q.1.1, q.1.2.1, q.2⟩⟩⟩).symm), zvi (z1i i), trivial⟩ (ih (i + 1) (by omega) (by omega))
                | exact zV.less (L' := [some (.ref y), some (.int g), some (.int (zb (zOrphN r g (i + 1)))), some (.int (nI (i + 1))), none]) ⟨rfl, rfl, zvi (zb_congr (zOrphN_succ.trans ⟨fun h => h.1, fun h => ⟨h, fun q => q.1.2.2.1 ((nI_eq (by omega) (by decide)).mp (show nI i = nI 1 from hc21))⟩⟩).symm), zvi (z1i i), trivial⟩ (ih (i + 1) (by omega) (by omega))
                | exact zV.less (L' := [some (.ref y), some (.int g), some (.int (zb (zOrphN r g (i + 1)))), some (.int (nI (i + 1))), none]) ⟨rfl, rfl, zvf (fun h => zb_eq.mp hc33 (zOrphN_succ.mp h).1), zvi (z1i i), trivial⟩ (ih (i + 1) (by omega) (by omega))
                | exact zV.less (L' := [some (.ref y), some (.int g), some (.int (zb (zOrphN r g (i + 1)))), some (.int (nI (i + 1))), none]) ⟨rfl, rfl, zvt (zOrphN_succ.mpr ⟨zb_ne.mp hc33, fun q => hc43 (by rw [← hpn]; exact q.1.2.2.2.1)⟩), zvi (z1i i), trivial⟩ (ih (i + 1) (by omega) (by omega))
                | exact zV.less (L' := [some (.ref y), some (.int g), some (.int (zb (zOrphN r g (i + 1)))), some (.int (nI (i + 1))), none]) ⟨rfl, rfl, zvt (zOrphN_succ.mpr ⟨zb_ne.mp hc33, fun q => hc59 (by rw [← hpn]; exact q.1.2.2.2.2.1)⟩), zvi (z1i i), trivial⟩ (ih (i + 1) (by omega) (by omega))
                | exact zV.less (L' := [some (.ref y), some (.int g), some (.int (zb (zOrphN r g (i + 1)))), some (.int (nI (i + 1))), none]) ⟨rfl, rfl, zvt (zOrphN_succ.mpr ⟨zb_ne.mp hc33, fun q => q.1.2.2.2.2.2 (by rw [hpn, hmem.2.2]; exact Classical.not_not.mp hc70)⟩), zvi (z1i i), trivial⟩ (ih (i + 1) (by omega) (by omega))
                | exact zV.less (L' := [some (.ref y), some (.int g), some (.int (zb (zOrphN r g (i + 1)))), some (.int (nI (i + 1))), none]) ⟨rfl, rfl, zvf (fun h => (zOrphN_succ.mp h).2 ⟨⟨hmem.1, hmem.2.1, hi1, by rw [hpn]; exact Classical.not_not.mp hc43, by rw [hpn]; exact Classical.not_not.mp hc59, by rw [hpn, hmem.2.2]; exact hc70⟩, hmem.2.2⟩), zvi (z1i i), trivial⟩ (ih (i + 1) (by omega) (by omega))
            · refine zz_aload_n (pc := 36) C dX3_orphaned_36 rfl ?_
              refine zz_get (pc := 37) C in_X3_orphaned_X3 (ci := 3) rfl 4 (by decide) (fl_X3_orphaned_23) rfl dX3_orphaned_37 hR.2.1 rfl ?_
              refine zz_iload (pc := 40) C dX3_orphaned_40 rfl ?_
              refine zz_mldz (pc := 42) C hR 4 (by decide) rfl dX3_orphaned_42 hpj (by show _ < 41; omega) ?_
              refine zz_if_ne (pc := 43) C (tgt := 73) dX3_orphaned_43 (by decide) (fun hc43 => ?_) (fun hc43 => ?_)
              · refine zz_iconst (pc := 73) C (v := 1) (by decide) dX3_orphaned_73 ?_
                refine zz_goto (pc := 74) C (tgt := 78) dX3_orphaned_74 (by decide) ?_
                refine zz_istore_n (pc := 78) C dX3_orphaned_78 (Nat.le_of_ble_eq_true rfl) ?_
                refine zz_iinc (pc := 79) C dX3_orphaned_79 rfl ?_
                refine zz_goto (pc := 82) C (tgt := 4) dX3_orphaned_82 (by decide) ?_
                first
                  | exact zV.less (L' := [some (.ref y), some (.int g), some (.int (zb (zOrphN r g (i + 1)))), some (.int (nI (i + 1))), none]) ⟨rfl, rfl, zvi (zb_congr (zOrphN_succ.trans ⟨fun h => h.1, fun h => ⟨h, fun q => (zb_eq.mp hc16) ⟨q.1.1, q.1.2.1, q.2⟩⟩⟩).symm), zvi (z1i i), trivial⟩ (ih (i + 1) (by omega) (by omega))
                  | exact zV.less (L' := [some (.ref y), some (.int g), some (.int (zb (zOrphN r g (i + 1)))), some (.int (nI (i + 1))), none]) ⟨rfl, rfl, zvi (zb_congr (zOrphN_succ.trans ⟨fun h => h.1, fun h => ⟨h, fun q => q.1.2.2.1 ((nI_eq (by omega) (by decide)).mp (show nI i = nI 1 from hc21))⟩⟩).symm), zvi (z1i i), trivial⟩ (ih (i + 1) (by omega) (by omega))
                  | exact zV.less (L' := [some (.ref y), some (.int g), some (.int (zb (zOrphN r g (i + 1)))), some (.int (nI (i + 1))), none]) ⟨rfl, rfl, zvf (fun h => zb_eq.mp hc33 (zOrphN_succ.mp h).1), zvi (z1i i), trivial⟩ (ih (i + 1) (by omega) (by omega))
                  | exact zV.less (L' := [some (.ref y), some (.int g), some (.int (zb (zOrphN r g (i + 1)))), some (.int (nI (i + 1))), none]) ⟨rfl, rfl, zvt (zOrphN_succ.mpr ⟨zb_ne.mp hc33, fun q => hc43 (by rw [← hpn]; exact q.1.2.2.2.1)⟩), zvi (z1i i), trivial⟩ (ih (i + 1) (by omega) (by omega))
                  | exact zV.less (L' := [some (.ref y), some (.int g), some (.int (zb (zOrphN r g (i + 1)))), some (.int (nI (i + 1))), none]) ⟨rfl, rfl, zvt (zOrphN_succ.mpr ⟨zb_ne.mp hc33, fun q => hc59 (by rw [← hpn]; exact q.1.2.2.2.2.1)⟩), zvi (z1i i), trivial⟩ (ih (i + 1) (by omega) (by omega))
                  | exact zV.less (L' := [some (.ref y), some (.int g), some (.int (zb (zOrphN r g (i + 1)))), some (.int (nI (i + 1))), none]) ⟨rfl, rfl, zvt (zOrphN_succ.mpr ⟨zb_ne.mp hc33, fun q => q.1.2.2.2.2.2 (by rw [hpn, hmem.2.2]; exact Classical.not_not.mp hc70)⟩), zvi (z1i i), trivial⟩ (ih (i + 1) (by omega) (by omega))
                  | exact zV.less (L' := [some (.ref y), some (.int g), some (.int (zb (zOrphN r g (i + 1)))), some (.int (nI (i + 1))), none]) ⟨rfl, rfl, zvf (fun h => (zOrphN_succ.mp h).2 ⟨⟨hmem.1, hmem.2.1, hi1, by rw [hpn]; exact Classical.not_not.mp hc43, by rw [hpn]; exact Classical.not_not.mp hc59, by rw [hpn, hmem.2.2]; exact hc70⟩, hmem.2.2⟩), zvi (z1i i), trivial⟩ (ih (i + 1) (by omega) (by omega))
              · refine zz_aload_n (pc := 46) C dX3_orphaned_46 rfl ?_
                refine zz_get (pc := 47) C in_X3_orphaned_X3 (ci := 3) rfl 3 (by decide) (fl_X3_orphaned_20) rfl dX3_orphaned_47 hR.2.1 rfl ?_
                refine zz_iload (pc := 50) C dX3_orphaned_50 rfl ?_
                refine zz_mld (pc := 52) C hR 3 (by decide) rfl dX3_orphaned_52 hpj (by show _ < 41; omega) ?_
                refine zz_aload_n (pc := 53) C dX3_orphaned_53 rfl ?_
                refine zz_get (pc := 54) C in_X3_orphaned_X3 (ci := 3) rfl 3 (by decide) (fl_X3_orphaned_20) rfl dX3_orphaned_54 hR.2.1 rfl ?_
                refine zz_iload_n (pc := 57) C dX3_orphaned_57 rfl ?_
                refine zz_mld (pc := 58) C hR 3 (by decide) rfl dX3_orphaned_58 rfl (by show _ < 41; omega) ?_
                refine zz_icmp_ne (pc := 59) C (tgt := 73) dX3_orphaned_59 (by decide) (fun hc59 => ?_) (fun hc59 => ?_)
                · refine zz_iconst (pc := 73) C (v := 1) (by decide) dX3_orphaned_73 ?_
                  refine zz_goto (pc := 74) C (tgt := 78) dX3_orphaned_74 (by decide) ?_
                  refine zz_istore_n (pc := 78) C dX3_orphaned_78 (Nat.le_of_ble_eq_true rfl) ?_
                  refine zz_iinc (pc := 79) C dX3_orphaned_79 rfl ?_
                  refine zz_goto (pc := 82) C (tgt := 4) dX3_orphaned_82 (by decide) ?_
                  first
                    | exact zV.less (L' := [some (.ref y), some (.int g), some (.int (zb (zOrphN r g (i + 1)))), some (.int (nI (i + 1))), none]) ⟨rfl, rfl, zvi (zb_congr (zOrphN_succ.trans ⟨fun h => h.1, fun h => ⟨h, fun q => (zb_eq.mp hc16) ⟨q.1.1, q.1.2.1, q.2⟩⟩⟩).symm), zvi (z1i i), trivial⟩ (ih (i + 1) (by omega) (by omega))
                    | exact zV.less (L' := [some (.ref y), some (.int g), some (.int (zb (zOrphN r g (i + 1)))), some (.int (nI (i + 1))), none]) ⟨rfl, rfl, zvi (zb_congr (zOrphN_succ.trans ⟨fun h => h.1, fun h => ⟨h, fun q => q.1.2.2.1 ((nI_eq (by omega) (by decide)).mp (show nI i = nI 1 from hc21))⟩⟩).symm), zvi (z1i i), trivial⟩ (ih (i + 1) (by omega) (by omega))
                    | exact zV.less (L' := [some (.ref y), some (.int g), some (.int (zb (zOrphN r g (i + 1)))), some (.int (nI (i + 1))), none]) ⟨rfl, rfl, zvf (fun h => zb_eq.mp hc33 (zOrphN_succ.mp h).1), zvi (z1i i), trivial⟩ (ih (i + 1) (by omega) (by omega))
                    | exact zV.less (L' := [some (.ref y), some (.int g), some (.int (zb (zOrphN r g (i + 1)))), some (.int (nI (i + 1))), none]) ⟨rfl, rfl, zvt (zOrphN_succ.mpr ⟨zb_ne.mp hc33, fun q => hc43 (by rw [← hpn]; exact q.1.2.2.2.1)⟩), zvi (z1i i), trivial⟩ (ih (i + 1) (by omega) (by omega))
                    | exact zV.less (L' := [some (.ref y), some (.int g), some (.int (zb (zOrphN r g (i + 1)))), some (.int (nI (i + 1))), none]) ⟨rfl, rfl, zvt (zOrphN_succ.mpr ⟨zb_ne.mp hc33, fun q => hc59 (by rw [← hpn]; exact q.1.2.2.2.2.1)⟩), zvi (z1i i), trivial⟩ (ih (i + 1) (by omega) (by omega))
                    | exact zV.less (L' := [some (.ref y), some (.int g), some (.int (zb (zOrphN r g (i + 1)))), some (.int (nI (i + 1))), none]) ⟨rfl, rfl, zvt (zOrphN_succ.mpr ⟨zb_ne.mp hc33, fun q => q.1.2.2.2.2.2 (by rw [hpn, hmem.2.2]; exact Classical.not_not.mp hc70)⟩), zvi (z1i i), trivial⟩ (ih (i + 1) (by omega) (by omega))
                    | exact zV.less (L' := [some (.ref y), some (.int g), some (.int (zb (zOrphN r g (i + 1)))), some (.int (nI (i + 1))), none]) ⟨rfl, rfl, zvf (fun h => (zOrphN_succ.mp h).2 ⟨⟨hmem.1, hmem.2.1, hi1, by rw [hpn]; exact Classical.not_not.mp hc43, by rw [hpn]; exact Classical.not_not.mp hc59, by rw [hpn, hmem.2.2]; exact hc70⟩, hmem.2.2⟩), zvi (z1i i), trivial⟩ (ih (i + 1) (by omega) (by omega))
                · refine zz_aload_n (pc := 62) C dX3_orphaned_62 rfl ?_
                  refine zz_get (pc := 63) C in_X3_orphaned_X3 (ci := 3) rfl 2 (by decide) (fl_X3_orphaned_17) rfl dX3_orphaned_63 hR.2.1 rfl ?_
                  refine zz_iload (pc := 66) C dX3_orphaned_66 rfl ?_
                  refine zz_mld (pc := 68) C hR 2 (by decide) rfl dX3_orphaned_68 hpj (by show _ < 41; omega) ?_
                  refine zz_iload_n (pc := 69) C dX3_orphaned_69 rfl ?_
                  refine zz_icmp_ne (pc := 70) C (tgt := 77) dX3_orphaned_70 (by decide) (fun hc70 => ?_) (fun hc70 => ?_)
                  · refine zz_iconst (pc := 77) C (v := 0) (by decide) dX3_orphaned_77 ?_
                    refine zz_istore_n (pc := 78) C dX3_orphaned_78 (Nat.le_of_ble_eq_true rfl) ?_
                    refine zz_iinc (pc := 79) C dX3_orphaned_79 rfl ?_
                    refine zz_goto (pc := 82) C (tgt := 4) dX3_orphaned_82 (by decide) ?_
                    first
                      | exact zV.less (L' := [some (.ref y), some (.int g), some (.int (zb (zOrphN r g (i + 1)))), some (.int (nI (i + 1))), none]) ⟨rfl, rfl, zvi (zb_congr (zOrphN_succ.trans ⟨fun h => h.1, fun h => ⟨h, fun q => (zb_eq.mp hc16) ⟨q.1.1, q.1.2.1, q.2⟩⟩⟩).symm), zvi (z1i i), trivial⟩ (ih (i + 1) (by omega) (by omega))
                      | exact zV.less (L' := [some (.ref y), some (.int g), some (.int (zb (zOrphN r g (i + 1)))), some (.int (nI (i + 1))), none]) ⟨rfl, rfl, zvi (zb_congr (zOrphN_succ.trans ⟨fun h => h.1, fun h => ⟨h, fun q => q.1.2.2.1 ((nI_eq (by omega) (by decide)).mp (show nI i = nI 1 from hc21))⟩⟩).symm), zvi (z1i i), trivial⟩ (ih (i + 1) (by omega) (by omega))
                      | exact zV.less (L' := [some (.ref y), some (.int g), some (.int (zb (zOrphN r g (i + 1)))), some (.int (nI (i + 1))), none]) ⟨rfl, rfl, zvf (fun h => zb_eq.mp hc33 (zOrphN_succ.mp h).1), zvi (z1i i), trivial⟩ (ih (i + 1) (by omega) (by omega))
                      | exact zV.less (L' := [some (.ref y), some (.int g), some (.int (zb (zOrphN r g (i + 1)))), some (.int (nI (i + 1))), none]) ⟨rfl, rfl, zvt (zOrphN_succ.mpr ⟨zb_ne.mp hc33, fun q => hc43 (by rw [← hpn]; exact q.1.2.2.2.1)⟩), zvi (z1i i), trivial⟩ (ih (i + 1) (by omega) (by omega))
                      | exact zV.less (L' := [some (.ref y), some (.int g), some (.int (zb (zOrphN r g (i + 1)))), some (.int (nI (i + 1))), none]) ⟨rfl, rfl, zvt (zOrphN_succ.mpr ⟨zb_ne.mp hc33, fun q => hc59 (by rw [← hpn]; exact q.1.2.2.2.2.1)⟩), zvi (z1i i), trivial⟩ (ih (i + 1) (by omega) (by omega))
                      | exact zV.less (L' := [some (.ref y), some (.int g), some (.int (zb (zOrphN r g (i + 1)))), some (.int (nI (i + 1))), none]) ⟨rfl, rfl, zvt (zOrphN_succ.mpr ⟨zb_ne.mp hc33, fun q => q.1.2.2.2.2.2 (by rw [hpn, hmem.2.2]; exact Classical.not_not.mp hc70)⟩), zvi (z1i i), trivial⟩ (ih (i + 1) (by omega) (by omega))
                      | exact zV.less (L' := [some (.ref y), some (.int g), some (.int (zb (zOrphN r g (i + 1)))), some (.int (nI (i + 1))), none]) ⟨rfl, rfl, zvf (fun h => (zOrphN_succ.mp h).2 ⟨⟨hmem.1, hmem.2.1, hi1, by rw [hpn]; exact Classical.not_not.mp hc43, by rw [hpn]; exact Classical.not_not.mp hc59, by rw [hpn, hmem.2.2]; exact hc70⟩, hmem.2.2⟩), zvi (z1i i), trivial⟩ (ih (i + 1) (by omega) (by omega))
                  · refine zz_iconst (pc := 73) C (v := 1) (by decide) dX3_orphaned_73 ?_
                    refine zz_goto (pc := 74) C (tgt := 78) dX3_orphaned_74 (by decide) ?_
                    refine zz_istore_n (pc := 78) C dX3_orphaned_78 (Nat.le_of_ble_eq_true rfl) ?_
                    refine zz_iinc (pc := 79) C dX3_orphaned_79 rfl ?_
                    refine zz_goto (pc := 82) C (tgt := 4) dX3_orphaned_82 (by decide) ?_
                    first
                      | exact zV.less (L' := [some (.ref y), some (.int g), some (.int (zb (zOrphN r g (i + 1)))), some (.int (nI (i + 1))), none]) ⟨rfl, rfl, zvi (zb_congr (zOrphN_succ.trans ⟨fun h => h.1, fun h => ⟨h, fun q => (zb_eq.mp hc16) ⟨q.1.1, q.1.2.1, q.2⟩⟩⟩).symm), zvi (z1i i), trivial⟩ (ih (i + 1) (by omega) (by omega))
                      | exact zV.less (L' := [some (.ref y), some (.int g), some (.int (zb (zOrphN r g (i + 1)))), some (.int (nI (i + 1))), none]) ⟨rfl, rfl, zvi (zb_congr (zOrphN_succ.trans ⟨fun h => h.1, fun h => ⟨h, fun q => q.1.2.2.1 ((nI_eq (by omega) (by decide)).mp (show nI i = nI 1 from hc21))⟩⟩).symm), zvi (z1i i), trivial⟩ (ih (i + 1) (by omega) (by omega))
                      | exact zV.less (L' := [some (.ref y), some (.int g), some (.int (zb (zOrphN r g (i + 1)))), some (.int (nI (i + 1))), none]) ⟨rfl, rfl, zvf (fun h => zb_eq.mp hc33 (zOrphN_succ.mp h).1), zvi (z1i i), trivial⟩ (ih (i + 1) (by omega) (by omega))
                      | exact zV.less (L' := [some (.ref y), some (.int g), some (.int (zb (zOrphN r g (i + 1)))), some (.int (nI (i + 1))), none]) ⟨rfl, rfl, zvt (zOrphN_succ.mpr ⟨zb_ne.mp hc33, fun q => hc43 (by rw [← hpn]; exact q.1.2.2.2.1)⟩), zvi (z1i i), trivial⟩ (ih (i + 1) (by omega) (by omega))
                      | exact zV.less (L' := [some (.ref y), some (.int g), some (.int (zb (zOrphN r g (i + 1)))), some (.int (nI (i + 1))), none]) ⟨rfl, rfl, zvt (zOrphN_succ.mpr ⟨zb_ne.mp hc33, fun q => hc59 (by rw [← hpn]; exact q.1.2.2.2.2.1)⟩), zvi (z1i i), trivial⟩ (ih (i + 1) (by omega) (by omega))
                      | exact zV.less (L' := [some (.ref y), some (.int g), some (.int (zb (zOrphN r g (i + 1)))), some (.int (nI (i + 1))), none]) ⟨rfl, rfl, zvt (zOrphN_succ.mpr ⟨zb_ne.mp hc33, fun q => q.1.2.2.2.2.2 (by rw [hpn, hmem.2.2]; exact Classical.not_not.mp hc70)⟩), zvi (z1i i), trivial⟩ (ih (i + 1) (by omega) (by omega))
                      | exact zV.less (L' := [some (.ref y), some (.int g), some (.int (zb (zOrphN r g (i + 1)))), some (.int (nI (i + 1))), none]) ⟨rfl, rfl, zvf (fun h => (zOrphN_succ.mp h).2 ⟨⟨hmem.1, hmem.2.1, hi1, by rw [hpn]; exact Classical.not_not.mp hc43, by rw [hpn]; exact Classical.not_not.mp hc59, by rw [hpn, hmem.2.2]; exact hc70⟩, hmem.2.2⟩), zvi (z1i i), trivial⟩ (ih (i + 1) (by omega) (by omega))
  refine zz_iconst (pc := 0) C (v := 1) (by decide) dX3_orphaned_0 ?_
  refine zz_istore_n (pc := 1) C dX3_orphaned_1 (Nat.le_of_ble_eq_true rfl) ?_
  refine zz_iconst (pc := 2) C (v := 1) (by decide) dX3_orphaned_2 ?_
  refine zz_istore_n (pc := 3) C dX3_orphaned_3 (Nat.le_of_ble_eq_true rfl) ?_
  refine zV.less (L' := [some (.ref y), some (.int g), some (.int (zb (zOrphN r g 1))), some (.int (nI 1)), none]) ⟨rfl, rfl, zvt (fun k hk q => by have h9 : k = 0 := (by omega); subst h9; exact q.1.1 h00), zvi rfl, trivial⟩ (loop 40 1 rfl (Nat.le_refl _))
theorem fl_X3_hasStopped_26 : Cond.fieldLink RX3 26 "SignalpostModel" "isStopped" "[Z" ∈ wsX3_hasStopped := by decide +kernel
theorem in_X3_hasStopped_X3 : ∀ w ∈ u_ws RX3 TX3 29, w ∈ wsX3_hasStopped := by decide +kernel
set_option maxHeartbeats 4000000 in
set_option maxRecDepth 100000 in
theorem c_X3_hasStopped (l : Launch) (D : va_G) {B G : zG} {y : Nat} {ma : Nat → Nat} {r : zS} {g : Int32} (hR : zModR B y ma r G) (h00 : r 0 0 = 0) : zMet D l yX3_hasStopped wsX3_hasStopped ({ frames := 1, cells := 0, slots := 0, locals := 22 } : Room) [.ref y, .int g] G (fun v G9 => v = some (.int (zb (zStopd r g 41))) ∧ G9 = G) := by
  refine zMet_of (cc := cX3_hasStopped) (maxL := 4) (ret := (some .boolean)) (by decide) rfl (Nat.le_of_ble_eq_true rfl) ?_
  intro p e s m args below meth c C hmn
  have loop : ∀ (n i : Nat), i + n = 41 → 1 ≤ i → zV p l e ({ frames := 1, cells := 0, slots := 0, locals := 22 } : Room) s m args below meth c D (zA G s.heap.size) 0 0 (zZ below D G (fun v G9 => v = some (.int (zb (zStopd r g 41))) ∧ G9 = G) args s ({ frames := 1, cells := 0, slots := 0, locals := 22 } : Room)) G 4 [some (.ref y), some (.int g), some (.int (zb (zStopd r g i))), some (.int (nI i))] [] := by
    intro n
    induction n with
    | zero =>
      intro i hi h1
      have hi41 : i = 41 := by omega
      subst hi41
      refine zz_iload_n (pc := 4) C dX3_hasStopped_4 rfl ?_
      refine zz_bipush (pc := 5) C (v := 40) (by decide) dX3_hasStopped_5 ?_
      refine zz_icmp_gt (pc := 7) C (tgt := 44) dX3_hasStopped_7 (by decide) (fun hc7 => ?_) (fun hc7 => ?_)
      · refine zz_iload_n (pc := 44) C dX3_hasStopped_44 rfl ?_
        exact zz_ireturn (pc := 45) C dX3_hasStopped_45 zb_nar (Nat.le_refl _) (Nat.le_refl _) ⟨rfl, rfl⟩
      · exact absurd z41 hc7
    | succ n ih =>
      intro i hi h1
      refine zz_iload_n (pc := 4) C dX3_hasStopped_4 rfl ?_
      refine zz_bipush (pc := 5) C (v := 40) (by decide) dX3_hasStopped_5 ?_
      refine zz_icmp_gt (pc := 7) C (tgt := 44) dX3_hasStopped_7 (by decide) (fun hc7 => ?_) (fun hc7 => ?_)
      · exact absurd hc7 (z40 (by omega))
      · refine zz_iload_n (pc := 10) C dX3_hasStopped_10 rfl ?_
        refine zz_if_ne (pc := 11) C (tgt := 32) dX3_hasStopped_11 (by decide) (fun hc11 => ?_) (fun hc11 => ?_)
        · refine zz_iconst (pc := 32) C (v := 1) (by decide) dX3_hasStopped_32 ?_
          refine zz_goto (pc := 33) C (tgt := 37) dX3_hasStopped_33 (by decide) ?_
          refine zz_istore_n (pc := 37) C dX3_hasStopped_37 (Nat.le_of_ble_eq_true rfl) ?_
          refine zz_iinc (pc := 38) C dX3_hasStopped_38 rfl ?_
          refine zz_goto (pc := 41) C (tgt := 4) dX3_hasStopped_41 (by decide) ?_
          first
            | exact zV.less (L' := [some (.ref y), some (.int g), some (.int (zb (zStopd r g (i + 1)))), some (.int (nI (i + 1)))]) ⟨rfl, rfl, zvt (zStopd_succ.mpr (Or.inl (zb_ne.mp hc11))), zvi (z1i i), trivial⟩ (ih (i + 1) (by omega) (by omega))
            | exact zV.less (L' := [some (.ref y), some (.int g), some (.int (zb (zStopd r g (i + 1)))), some (.int (nI (i + 1)))]) ⟨rfl, rfl, zvf (fun h => (zStopd_succ.mp h).elim (fun a => hc11 (zb_ne.mpr a)) (fun b => zb_eq.mp hc20 b.1)), zvi (z1i i), trivial⟩ (ih (i + 1) (by omega) (by omega))
            | exact zV.less (L' := [some (.ref y), some (.int g), some (.int (zb (zStopd r g (i + 1)))), some (.int (nI (i + 1)))]) ⟨rfl, rfl, zvf (fun h => (zStopd_succ.mp h).elim (fun a => hc11 (zb_ne.mpr a)) (fun b => b.2 hc29)), zvi (z1i i), trivial⟩ (ih (i + 1) (by omega) (by omega))
            | exact zV.less (L' := [some (.ref y), some (.int g), some (.int (zb (zStopd r g (i + 1)))), some (.int (nI (i + 1)))]) ⟨rfl, rfl, zvt (zStopd_succ.mpr (Or.inr ⟨zb_ne.mp hc20, hc29⟩)), zvi (z1i i), trivial⟩ (ih (i + 1) (by omega) (by omega))
        · refine zz_aload_n (pc := 14) C dX3_hasStopped_14 rfl ?_
          refine zz_iload_n (pc := 15) C dX3_hasStopped_15 rfl ?_
          refine zz_iload_n (pc := 16) C dX3_hasStopped_16 rfl ?_
          refine zz_callV (pc := 17) C (c_X3_isMember l D hR (k := i) (g := g) (by omega)) gX3_hasStopped_X3_isMember rfl 2 (by decide +kernel) ⟨Nat.le_of_ble_eq_true rfl, Nat.le_of_ble_eq_true rfl⟩ hR.2.1 (ci := 3) rfl rfl rfl dX3_hasStopped_17 rfl (Nat.le_of_ble_eq_true rfl) rfl ⟨Nat.le_of_ble_eq_true rfl, Nat.le_of_ble_eq_true rfl⟩ ?_
          rintro v G9 ⟨rfl, rfl⟩
          refine zz_if_eq (pc := 20) C (tgt := 36) dX3_hasStopped_20 (by decide) (fun hc20 => ?_) (fun hc20 => ?_)
          · refine zz_iconst (pc := 36) C (v := 0) (by decide) dX3_hasStopped_36 ?_
            refine zz_istore_n (pc := 37) C dX3_hasStopped_37 (Nat.le_of_ble_eq_true rfl) ?_
            refine zz_iinc (pc := 38) C dX3_hasStopped_38 rfl ?_
            refine zz_goto (pc := 41) C (tgt := 4) dX3_hasStopped_41 (by decide) ?_
            first
              | exact zV.less (L' := [some (.ref y), some (.int g), some (.int (zb (zStopd r g (i + 1)))), some (.int (nI (i + 1)))]) ⟨rfl, rfl, zvt (zStopd_succ.mpr (Or.inl (zb_ne.mp hc11))), zvi (z1i i), trivial⟩ (ih (i + 1) (by omega) (by omega))
              | exact zV.less (L' := [some (.ref y), some (.int g), some (.int (zb (zStopd r g (i + 1)))), some (.int (nI (i + 1)))]) ⟨rfl, rfl, zvf (fun h => (zStopd_succ.mp h).elim (fun a => hc11 (zb_ne.mpr a)) (fun b => zb_eq.mp hc20 b.1)), zvi (z1i i), trivial⟩ (ih (i + 1) (by omega) (by omega))
              | exact zV.less (L' := [some (.ref y), some (.int g), some (.int (zb (zStopd r g (i + 1)))), some (.int (nI (i + 1)))]) ⟨rfl, rfl, zvf (fun h => (zStopd_succ.mp h).elim (fun a => hc11 (zb_ne.mpr a)) (fun b => b.2 hc29)), zvi (z1i i), trivial⟩ (ih (i + 1) (by omega) (by omega))
              | exact zV.less (L' := [some (.ref y), some (.int g), some (.int (zb (zStopd r g (i + 1)))), some (.int (nI (i + 1)))]) ⟨rfl, rfl, zvt (zStopd_succ.mpr (Or.inr ⟨zb_ne.mp hc20, hc29⟩)), zvi (z1i i), trivial⟩ (ih (i + 1) (by omega) (by omega))
          · refine zz_aload_n (pc := 23) C dX3_hasStopped_23 rfl ?_
            refine zz_get (pc := 24) C in_X3_hasStopped_X3 (ci := 3) rfl 5 (by decide) (fl_X3_hasStopped_26) rfl dX3_hasStopped_24 hR.2.1 rfl ?_
            refine zz_iload_n (pc := 27) C dX3_hasStopped_27 rfl ?_
            refine zz_mldz (pc := 28) C hR 5 (by decide) rfl dX3_hasStopped_28 rfl (by show _ < 41; omega) ?_
            refine zz_if_eq (pc := 29) C (tgt := 36) dX3_hasStopped_29 (by decide) (fun hc29 => ?_) (fun hc29 => ?_)
            · refine zz_iconst (pc := 36) C (v := 0) (by decide) dX3_hasStopped_36 ?_
              refine zz_istore_n (pc := 37) C dX3_hasStopped_37 (Nat.le_of_ble_eq_true rfl) ?_
              refine zz_iinc (pc := 38) C dX3_hasStopped_38 rfl ?_
              refine zz_goto (pc := 41) C (tgt := 4) dX3_hasStopped_41 (by decide) ?_
              first
                | exact zV.less (L' := [some (.ref y), some (.int g), some (.int (zb (zStopd r g (i + 1)))), some (.int (nI (i + 1)))]) ⟨rfl, rfl, zvt (zStopd_succ.mpr (Or.inl (zb_ne.mp hc11))), zvi (z1i i), trivial⟩ (ih (i + 1) (by omega) (by omega))
                | exact zV.less (L' := [some (.ref y), some (.int g), some (.int (zb (zStopd r g (i + 1)))), some (.int (nI (i + 1)))]) ⟨rfl, rfl, zvf (fun h => (zStopd_succ.mp h).elim (fun a => hc11 (zb_ne.mpr a)) (fun b => zb_eq.mp hc20 b.1)), zvi (z1i i), trivial⟩ (ih (i + 1) (by omega) (by omega))
                | exact zV.less (L' := [some (.ref y), some (.int g), some (.int (zb (zStopd r g (i + 1)))), some (.int (nI (i + 1)))]) ⟨rfl, rfl, zvf (fun h => (zStopd_succ.mp h).elim (fun a => hc11 (zb_ne.mpr a)) (fun b => b.2 hc29)), zvi (z1i i), trivial⟩ (ih (i + 1) (by omega) (by omega))
                | exact zV.less (L' := [some (.ref y), some (.int g), some (.int (zb (zStopd r g (i + 1)))), some (.int (nI (i + 1)))]) ⟨rfl, rfl, zvt (zStopd_succ.mpr (Or.inr ⟨zb_ne.mp hc20, hc29⟩)), zvi (z1i i), trivial⟩ (ih (i + 1) (by omega) (by omega))
            · refine zz_iconst (pc := 32) C (v := 1) (by decide) dX3_hasStopped_32 ?_
              refine zz_goto (pc := 33) C (tgt := 37) dX3_hasStopped_33 (by decide) ?_
              refine zz_istore_n (pc := 37) C dX3_hasStopped_37 (Nat.le_of_ble_eq_true rfl) ?_
              refine zz_iinc (pc := 38) C dX3_hasStopped_38 rfl ?_
              refine zz_goto (pc := 41) C (tgt := 4) dX3_hasStopped_41 (by decide) ?_
              first
                | exact zV.less (L' := [some (.ref y), some (.int g), some (.int (zb (zStopd r g (i + 1)))), some (.int (nI (i + 1)))]) ⟨rfl, rfl, zvt (zStopd_succ.mpr (Or.inl (zb_ne.mp hc11))), zvi (z1i i), trivial⟩ (ih (i + 1) (by omega) (by omega))
                | exact zV.less (L' := [some (.ref y), some (.int g), some (.int (zb (zStopd r g (i + 1)))), some (.int (nI (i + 1)))]) ⟨rfl, rfl, zvf (fun h => (zStopd_succ.mp h).elim (fun a => hc11 (zb_ne.mpr a)) (fun b => zb_eq.mp hc20 b.1)), zvi (z1i i), trivial⟩ (ih (i + 1) (by omega) (by omega))
                | exact zV.less (L' := [some (.ref y), some (.int g), some (.int (zb (zStopd r g (i + 1)))), some (.int (nI (i + 1)))]) ⟨rfl, rfl, zvf (fun h => (zStopd_succ.mp h).elim (fun a => hc11 (zb_ne.mpr a)) (fun b => b.2 hc29)), zvi (z1i i), trivial⟩ (ih (i + 1) (by omega) (by omega))
                | exact zV.less (L' := [some (.ref y), some (.int g), some (.int (zb (zStopd r g (i + 1)))), some (.int (nI (i + 1)))]) ⟨rfl, rfl, zvt (zStopd_succ.mpr (Or.inr ⟨zb_ne.mp hc20, hc29⟩)), zvi (z1i i), trivial⟩ (ih (i + 1) (by omega) (by omega))
  refine zz_iconst (pc := 0) C (v := 0) (by decide) dX3_hasStopped_0 ?_
  refine zz_istore_n (pc := 1) C dX3_hasStopped_1 (Nat.le_of_ble_eq_true rfl) ?_
  refine zz_iconst (pc := 2) C (v := 1) (by decide) dX3_hasStopped_2 ?_
  refine zz_istore_n (pc := 3) C dX3_hasStopped_3 (Nat.le_of_ble_eq_true rfl) ?_
  refine zV.less (L' := [some (.ref y), some (.int g), some (.int (zb (zStopd r g 1))), some (.int (nI 1))]) ⟨rfl, rfl, zvf (fun q => q (fun k hk z => by have h9 : k = 0 := (by omega); subst h9; exact z.1.1 h00)), zvi rfl, trivial⟩ (loop 40 1 rfl (Nat.le_refl _))
theorem fl_X3_ends_29 : Cond.fieldLink RX3 29 "SignalpostModel" "isWaiting" "[Z" ∈ wsX3_ends := by decide +kernel
theorem fl_X3_ends_65 : Cond.fieldLink RX3 65 "SignalpostModel" "waitResult" "[I" ∈ wsX3_ends := by decide +kernel
theorem fl_X3_ends_68 : Cond.fieldLink RX3 68 "SignalpostModel" "reported" "[I" ∈ wsX3_ends := by decide +kernel
theorem fl_X3_ends_71 : Cond.fieldLink RX3 71 "SignalpostModel" "reportedValue" "[I" ∈ wsX3_ends := by decide +kernel
theorem in_X3_ends_X3 : ∀ w ∈ u_ws RX3 TX3 29, w ∈ wsX3_ends := by decide +kernel
set_option maxHeartbeats 4000000 in
set_option maxRecDepth 100000 in
theorem c_X3_ends (l : Launch) (D : va_G) {B G : zG} {y : Nat} {ma : Nat → Nat} {r : zS} {k : Nat} {a b d : Int32} (hR : zModR B y ma r G) (hk : k < 41) : zMet D l yX3_ends wsX3_ends ({ frames := 0, cells := 0, slots := 0, locals := 0 } : Room) [.ref y, .int (nI k), .int a, .int b, .int d] G (fun v G9 => v = none ∧ zModR B y ma (zEnds r k a b d) G9) := by
  refine zMet_of (cc := cX3_ends) (maxL := 5) (ret := none) (by decide) rfl (Nat.le_of_ble_eq_true rfl) ?_
  intro p e s m args below meth c C hmn
  refine zz_aload_n (pc := 0) C dX3_ends_0 rfl ?_
  refine zz_get (pc := 1) C in_X3_ends_X3 (ci := 3) rfl 6 (by decide) (fl_X3_ends_29) rfl dX3_ends_1 hR.2.1 rfl ?_
  refine zz_iload_n (pc := 4) C dX3_ends_4 rfl ?_
  refine zz_iconst (pc := 5) C (v := 0) (by decide) dX3_ends_5 ?_
  refine zz_mstz (pc := 6) C hR 6 (by decide) rfl dX3_ends_6 rfl (by show _ < 41; omega) (by first | rfl | exact zb_vp) (fun G hR => ?_)
  refine zz_aload_n (pc := 7) C dX3_ends_7 rfl ?_
  refine zz_get (pc := 8) C in_X3_ends_X3 (ci := 3) rfl 18 (by decide) (fl_X3_ends_65) rfl dX3_ends_8 hR.2.1 rfl ?_
  refine zz_iload_n (pc := 11) C dX3_ends_11 rfl ?_
  refine zz_iload_n (pc := 12) C dX3_ends_12 rfl ?_
  refine zz_mst (pc := 13) C hR 18 (by decide) rfl dX3_ends_13 rfl (by show _ < 41; omega) (fun G hR => ?_)
  refine zz_aload_n (pc := 14) C dX3_ends_14 rfl ?_
  refine zz_get (pc := 15) C in_X3_ends_X3 (ci := 3) rfl 19 (by decide) (fl_X3_ends_68) rfl dX3_ends_15 hR.2.1 rfl ?_
  refine zz_iload_n (pc := 18) C dX3_ends_18 rfl ?_
  refine zz_iload_n (pc := 19) C dX3_ends_19 rfl ?_
  refine zz_mst (pc := 20) C hR 19 (by decide) rfl dX3_ends_20 rfl (by show _ < 41; omega) (fun G hR => ?_)
  refine zz_aload_n (pc := 21) C dX3_ends_21 rfl ?_
  refine zz_get (pc := 22) C in_X3_ends_X3 (ci := 3) rfl 20 (by decide) (fl_X3_ends_71) rfl dX3_ends_22 hR.2.1 rfl ?_
  refine zz_iload_n (pc := 25) C dX3_ends_25 rfl ?_
  refine zz_iload (pc := 26) C dX3_ends_26 rfl ?_
  refine zz_mst (pc := 28) C hR 20 (by decide) rfl dX3_ends_28 rfl (by show _ < 41; omega) (fun G hR => ?_)
  exact zz_return (pc := 29) C dX3_ends_29 (Nat.le_refl _) (Nat.le_refl _) ⟨rfl, hR⟩
theorem zRing.room {r : zS} {q : List zEv} (h : zRing r q) : q.length < 8192 := by
  obtain ⟨hd, h1, h2, h3, h4, h5⟩ := h
  exact h4
theorem zRing.push {r : zS} {q : List zEv} {tl : Nat} {ev : zEv} (h : zRing r q) (ht : r 26 0 = nI tl) (htl : tl < 8192) (hq : q.length + 1 < 8192) : zRing (zu (zu r 24 tl (nI (zCode ev))) 26 0 (nI ((tl + 1) % 8192))) (q ++ [ev]) := by
  obtain ⟨hd, h1, h2, h3, h4, h5⟩ := h
  have e1 : tl = (hd + q.length) % 8192 := by
    rw [ht] at h3
    exact (nI_eq (by omega) (by omega)).mp h3
  refine ⟨hd, h1, by simpa [zu] using h2, ?_, by simp; omega, fun i e hi => ?_⟩
  · simp only [zu, if_true, List.length_append, List.length_cons, List.length_nil]
    congr 1
    omega
  · by_cases hil : i < q.length
    · rw [List.getElem?_append_left hil] at hi
      have hne : (hd + i) % 8192 ≠ tl := by omega
      simp only [zu, if_true, if_neg hne]
      exact h5 i e hi
    · rw [List.getElem?_append_right (by omega)] at hi
      have h6 : i - q.length = 0 := by
        have := (List.getElem?_eq_some_iff.mp hi).1
        simp at this
        omega
      rw [h6] at hi
      simp at hi
      subst hi
      have : (hd + i) % 8192 = tl := by omega
      simp [zu, this]
theorem fl_X3_appends_81 : Cond.fieldLink RX3 81 "SignalpostModel" "ring" "[I" ∈ wsX3_appends := by decide +kernel
theorem fl_X3_appends_101 : Cond.fieldLink RX3 101 "SignalpostModel" "tail" "I" ∈ wsX3_appends := by decide +kernel
theorem in_X3_appends_X3 : ∀ w ∈ u_ws RX3 TX3 29, w ∈ wsX3_appends := by decide +kernel
set_option maxHeartbeats 4000000 in
set_option maxRecDepth 100000 in
theorem c_X3_appends (l : Launch) (D : va_G) {B G : zG} {y : Nat} {ma : Nat → Nat} {r : zS} {q : List zEv} {ev : zEv} {a b d : Int32} (hR : zModR B y ma r G) (hring : zRing r q) (hroom : q.length + 1 < 8192) (hcode : 1000 * a + 50 * b + d = nI (zCode ev)) : zMet D l yX3_appends wsX3_appends ({ frames := 0, cells := 0, slots := 0, locals := 0 } : Room) [.ref y, .int a, .int b, .int d] G (fun v G9 => v = none ∧ ∃ r2, zModR B y ma r2 G9 ∧ zAg r2 r ∧ (∀ k, k = 23 ∨ k = 27 ∨ k = 28 → r2 k = r k) ∧ zRing r2 (q ++ [ev])) := by
  refine zMet_of (cc := cX3_appends) (maxL := 4) (ret := none) (by decide) rfl (Nat.le_of_ble_eq_true rfl) ?_
  intro p e s m args below meth c C hmn
  obtain ⟨tl, htl, htl2⟩ : ∃ tl : Nat, r 26 0 = nI tl ∧ tl < 8192 := by
    obtain ⟨hd, h1, h2, h3, h4, h5⟩ := hring
    exact ⟨_, h3, Nat.mod_lt _ (by decide)⟩
  refine zz_aload_n (pc := 0) C dX3_appends_0 rfl ?_
  refine zz_get (pc := 1) C in_X3_appends_X3 (ci := 3) rfl 24 (by decide) (fl_X3_appends_81) rfl dX3_appends_1 hR.2.1 rfl ?_
  refine zz_aload_n (pc := 4) C dX3_appends_4 rfl ?_
  refine zz_get (pc := 5) C in_X3_appends_X3 (ci := 3) rfl 26 (by decide) (fl_X3_appends_101) rfl dX3_appends_5 hR.2.1 rfl ?_
  refine zz_sipush (pc := 8) C (v := 1000) (by decide) dX3_appends_8 ?_
  refine zz_iload_n (pc := 11) C dX3_appends_11 rfl ?_
  refine zz_imul (pc := 12) C dX3_appends_12 ?_
  refine zz_bipush (pc := 13) C (v := 50) (by decide) dX3_appends_13 ?_
  refine zz_iload_n (pc := 15) C dX3_appends_15 rfl ?_
  refine zz_imul (pc := 16) C dX3_appends_16 ?_
  refine zz_iadd (pc := 17) C dX3_appends_17 ?_
  refine zz_iload_n (pc := 18) C dX3_appends_18 rfl ?_
  refine zz_iadd (pc := 19) C dX3_appends_19 ?_
  rw [hcode]
  refine zz_mst (pc := 20) C hR 24 (by decide) rfl dX3_appends_20 htl htl2 (fun G hR => ?_)
  refine zz_aload_n (pc := 21) C dX3_appends_21 rfl ?_
  refine zz_aload_n (pc := 22) C dX3_appends_22 rfl ?_
  refine zz_get (pc := 23) C in_X3_appends_X3 (ci := 3) rfl 26 (by decide) (fl_X3_appends_101) rfl dX3_appends_23 hR.2.1 rfl ?_
  refine zz_iconst (pc := 26) C (v := 1) (by decide) dX3_appends_26 ?_
  refine zz_iadd (pc := 27) C dX3_appends_27 ?_
  refine zz_sipush (pc := 28) C (v := 8192) (by decide) dX3_appends_28 ?_
  rw [show (zu r 24 tl (nI (zCode ev))) 26 0 = nI tl from (by rw [zu_off (by decide)]; exact htl)]
  refine zz_irem (pc := 31) C (a := tl + 1) (d := 8192) dX3_appends_31 (nI_1 tl) (by decide) (by omega) (by decide) (by decide) ?_
  refine zz_mput (pc := 32) C in_X3_appends_X3 hR 26 (by decide) fl_X3_appends_101 dX3_appends_32 (fun G hR => ?_)
  refine zz_return (pc := 35) C dX3_appends_35 (Nat.le_refl _) (Nat.le_refl _) ⟨rfl, _, hR, fun k hk => ?_, fun k hk => ?_, hring.push htl htl2 hroom⟩
  · rw [zu_off (by omega), zu_off (by omega)]
  · rw [zu_off (by omega), zu_off (by omega)]
theorem zMemL_len (σ : zS) (g : Int32) (n : Nat) : (zMemL σ g n).length ≤ n := by
  unfold zMemL
  exact Nat.le_trans (List.length_filter_le _ _) (by simp)
theorem zCode_sig {s k : Nat} (h : s < 9) : zCode (s, k) = 1000 + 50 * s + k := by
  unfold zCode
  rw [if_neg (by show ¬ s = 9; omega), if_neg (by show ¬ s = 10; omega)]

set_option maxHeartbeats 4000000 in
set_option maxRecDepth 100000 in
theorem c_X3_sends (l : Launch) (D : va_G) {B G : zG} {y : Nat} {ma : Nat → Nat} {r : zS} {q : List zEv} {g : Int32} {sg : Nat} (hR : zModR B y ma r G) (h00 : r 0 0 = 0) (hsg : sg < 9) (hring : zRing r q) (hroom : q.length + 41 < 8192) : zMet D l yX3_sends wsX3_sends ({ frames := 1, cells := 0, slots := 0, locals := 23 } : Room) [.ref y, .int g, .int (nI sg)] G (fun v G9 => v = some (.int (nI (zMemL r g 41).length)) ∧ ∃ r2, zModR B y ma r2 G9 ∧ zAg r2 r ∧ (∀ k, k = 23 ∨ k = 27 ∨ k = 28 → r2 k = r k) ∧ zRing r2 (q ++ zSends r g sg 41)) := by
  refine zMet_of (cc := cX3_sends) (maxL := 5) (ret := (some .int)) (by decide) rfl (Nat.le_of_ble_eq_true rfl) ?_
  intro p e s m args below meth c C hmn
  have loop : ∀ (n i : Nat) (r1 : zS) (G1 : zG), i + n = 41 → 1 ≤ i → zModR B y ma r1 G1 → zAg r1 r → (∀ k, k = 23 ∨ k = 27 ∨ k = 28 → r1 k = r k) → zRing r1 (q ++ zSends r g sg i) → zV p l e ({ frames := 1, cells := 0, slots := 0, locals := 23 } : Room) s m args below meth c D (zA G s.heap.size) 0 0 (zZ below D G (fun v G9 => v = some (.int (nI (zMemL r g 41).length)) ∧ ∃ r2, zModR B y ma r2 G9 ∧ zAg r2 r ∧ (∀ k, k = 23 ∨ k = 27 ∨ k = 28 → r2 k = r k) ∧ zRing r2 (q ++ zSends r g sg 41)) args s ({ frames := 1, cells := 0, slots := 0, locals := 23 } : Room)) G1 5 [some (.ref y), some (.int g), some (.int (nI sg)), some (.int (nI (zMemL r g i).length)), some (.int (nI i))] [] := by
    intro n
    induction n with
    | zero =>
      intro i r1 G1 hi h1 hR hag hk3 hring
      have hi41 : i = 41 := by omega
      subst hi41
      refine zz_iload (pc := 5) C dX3_sends_5 rfl ?_
      refine zz_bipush (pc := 7) C (v := 40) (by decide) dX3_sends_7 ?_
      refine zz_icmp_gt (pc := 9) C (tgt := 39) dX3_sends_9 (by decide) (fun hc9 => ?_) (fun hc9 => ?_)
      · refine zz_iload_n (pc := 39) C dX3_sends_39 rfl ?_
        exact zz_ireturn (pc := 40) C dX3_sends_40 rfl (Nat.le_refl _) (Nat.le_refl _) ⟨rfl, r1, hR, hag, hk3, hring⟩
      · exact absurd z41 hc9
    | succ n ih =>
      intro i r1 G1 hi h1 hR hag hk3 hring
      refine zz_iload (pc := 5) C dX3_sends_5 rfl ?_
      refine zz_bipush (pc := 7) C (v := 40) (by decide) dX3_sends_7 ?_
      refine zz_icmp_gt (pc := 9) C (tgt := 39) dX3_sends_9 (by decide) (fun hc9 => ?_) (fun hc9 => ?_)
      · exact absurd hc9 (z40 (by omega))
      · refine zz_aload_n (pc := 12) C dX3_sends_12 rfl ?_
        refine zz_iload (pc := 13) C dX3_sends_13 rfl ?_
        refine zz_iload_n (pc := 15) C dX3_sends_15 rfl ?_
        refine zz_callV (pc := 16) C (c_X3_isMember l D hR (k := i) (g := g) (by omega)) gX3_sends_X3_isMember rfl 2 (by decide +kernel) ⟨Nat.le_of_ble_eq_true rfl, Nat.le_of_ble_eq_true rfl⟩ hR.2.1 (ci := 3) rfl rfl rfl dX3_sends_16 rfl (Nat.le_of_ble_eq_true rfl) rfl ⟨Nat.le_of_ble_eq_true rfl, Nat.le_of_ble_eq_true rfl⟩ ?_
        rintro v G9 ⟨rfl, rfl⟩
        refine zz_if_eq (pc := 19) C (tgt := 33) dX3_sends_19 (by decide) (fun hc19 => ?_) (fun hc19 => ?_)
        · try (have hmem : ¬ zMem r i g := by have := zb_eq.mp hc19; unfold zMem at this ⊢; rw [hag 0 (by decide), hag 4 (by decide), hag 2 (by decide)] at this; exact this)
          refine zz_iinc (pc := 33) C dX3_sends_33 rfl ?_
          refine zz_goto (pc := 36) C (tgt := 5) dX3_sends_36 (by decide) ?_
          first
            | exact zV.less (L' := [some (.ref y), some (.int g), some (.int (nI sg)), some (.int (nI (zMemL r g (i + 1)).length)), some (.int (nI (i + 1)))]) ⟨rfl, rfl, rfl, zvi (by rw [zMemL_no hmem]), zvi (z1i i), trivial⟩ (ih (i + 1) r1 _ (by omega) (by omega) hR hag hk3 (by rw [zSends_no hmem]; exact hring))
            | exact zV.less (L' := [some (.ref y), some (.int g), some (.int (nI sg)), some (.int (nI (zMemL r g (i + 1)).length)), some (.int (nI (i + 1)))]) ⟨rfl, rfl, rfl, zvi (by rw [zMemL_yes hmem, List.length_append]; exact z1i _), zvi (z1i i), trivial⟩ (ih (i + 1) r2 _ (by omega) (by omega) hR2 (fun k hk => (hag2 k hk).trans (hag k hk)) (fun k hk => (hk2 k hk).trans (hk3 k hk)) (by rw [zSends_yes hmem, ← List.append_assoc]; exact hring2))
        · have hmem : zMem r i g := by have := zb_ne.mp hc19; unfold zMem at this ⊢; rw [hag 0 (by decide), hag 4 (by decide), hag 2 (by decide)] at this; exact this
          refine zz_aload_n (pc := 22) C dX3_sends_22 rfl ?_
          refine zz_iconst (pc := 23) C (v := 1) (by decide) dX3_sends_23 ?_
          refine zz_iload_n (pc := 24) C dX3_sends_24 rfl ?_
          refine zz_iload (pc := 25) C dX3_sends_25 rfl ?_
          refine zz_callV (pc := 27) C (c_X3_appends l D hR (ev := (sg, i)) hring (by have := zMemL_len r g i; simp [zSends]; omega) (by rw [zCode_sig hsg]; show nI 1000 * nI 1 + nI 50 * nI sg + nI i = _; simp only [pk_mul, nI_add, Nat.mul_one])) gX3_sends_X3_appends rfl 3 (by decide +kernel) ⟨Nat.le_of_ble_eq_true rfl, Nat.le_of_ble_eq_true rfl⟩ hR.2.1 (ci := 3) rfl rfl rfl dX3_sends_27 rfl (Nat.le_of_ble_eq_true rfl) rfl ⟨Nat.le_of_ble_eq_true rfl, Nat.le_of_ble_eq_true rfl⟩ ?_
          rintro v G9 ⟨rfl, r2, hR2, hag2, hk2, hring2⟩
          refine zz_iinc (pc := 30) C dX3_sends_30 rfl ?_
          try (have hmem : ¬ zMem r i g := by have := zb_eq.mp hc19; unfold zMem at this ⊢; rw [hag 0 (by decide), hag 4 (by decide), hag 2 (by decide)] at this; exact this)
          refine zz_iinc (pc := 33) C dX3_sends_33 rfl ?_
          refine zz_goto (pc := 36) C (tgt := 5) dX3_sends_36 (by decide) ?_
          first
            | exact zV.less (L' := [some (.ref y), some (.int g), some (.int (nI sg)), some (.int (nI (zMemL r g (i + 1)).length)), some (.int (nI (i + 1)))]) ⟨rfl, rfl, rfl, zvi (by rw [zMemL_no hmem]), zvi (z1i i), trivial⟩ (ih (i + 1) r1 _ (by omega) (by omega) hR hag hk3 (by rw [zSends_no hmem]; exact hring))
            | exact zV.less (L' := [some (.ref y), some (.int g), some (.int (nI sg)), some (.int (nI (zMemL r g (i + 1)).length)), some (.int (nI (i + 1)))]) ⟨rfl, rfl, rfl, zvi (by rw [zMemL_yes hmem, List.length_append]; exact z1i _), zvi (z1i i), trivial⟩ (ih (i + 1) r2 _ (by omega) (by omega) hR2 (fun k hk => (hag2 k hk).trans (hag k hk)) (fun k hk => (hk2 k hk).trans (hk3 k hk)) (by rw [zSends_yes hmem, ← List.append_assoc]; exact hring2))
  refine zz_iconst (pc := 0) C (v := 0) (by decide) dX3_sends_0 ?_
  refine zz_istore_n (pc := 1) C dX3_sends_1 (Nat.le_of_ble_eq_true rfl) ?_
  refine zz_iconst (pc := 2) C (v := 1) (by decide) dX3_sends_2 ?_
  refine zz_istore (pc := 3) C dX3_sends_3 (Nat.le_of_ble_eq_true rfl) ?_
  refine zV.less (L' := [some (.ref y), some (.int g), some (.int (nI sg)), some (.int (nI (zMemL r g 1).length)), some (.int (nI 1))]) ⟨rfl, rfl, rfl, zvi (by rw [(show zMemL r g 1 = [] from (zMemL_no (fun q => q.1 h00)).trans rfl)]; rfl), zvi rfl, trivial⟩ (loop 40 1 r G rfl (Nat.le_refl _) hR (fun _ _ => rfl) (fun _ _ => rfl) (by rw [zSends_no (fun q => q.1 h00)]; simpa [zSends, zMemL] using hring))
theorem fl_X3_stops_26 : Cond.fieldLink RX3 26 "SignalpostModel" "isStopped" "[Z" ∈ wsX3_stops := by decide +kernel
theorem fl_X3_stops_59 : Cond.fieldLink RX3 59 "SignalpostModel" "stopSignal" "[I" ∈ wsX3_stops := by decide +kernel
theorem fl_X3_stops_62 : Cond.fieldLink RX3 62 "SignalpostModel" "isNews" "[Z" ∈ wsX3_stops := by decide +kernel
theorem in_X3_stops_X3 : ∀ w ∈ u_ws RX3 TX3 29, w ∈ wsX3_stops := by decide +kernel
set_option maxHeartbeats 4000000 in
set_option maxRecDepth 100000 in
theorem c_X3_stops (l : Launch) (D : va_G) {B G : zG} {y : Nat} {ma : Nat → Nat} {r : zS} {q : List zEv} {k sg : Nat} (hR : zModR B y ma r G) (hk : k < 41) (hring : zRing r q) (hroom : q.length + 1 < 8192) : zMet D l yX3_stops wsX3_stops ({ frames := 1, cells := 0, slots := 0, locals := 23 } : Room) [.ref y, .int (nI k), .int (nI sg)] G (fun v G9 => v = none ∧ ∃ r2, zModR B y ma r2 G9 ∧ zAg r2 (zStop (r, q) k sg).1 ∧ r2 23 = r 23 ∧ zRing r2 (q ++ [(10, k)])) := by
  refine zMet_of (cc := cX3_stops) (maxL := 3) (ret := none) (by decide) rfl (Nat.le_of_ble_eq_true rfl) ?_
  intro p e s m args below meth c C hmn
  refine zz_aload_n (pc := 0) C dX3_stops_0 rfl ?_
  refine zz_get (pc := 1) C in_X3_stops_X3 (ci := 3) rfl 5 (by decide) (fl_X3_stops_26) rfl dX3_stops_1 hR.2.1 rfl ?_
  refine zz_iload_n (pc := 4) C dX3_stops_4 rfl ?_
  refine zz_iconst (pc := 5) C (v := 1) (by decide) dX3_stops_5 ?_
  refine zz_mstz (pc := 6) C hR 5 (by decide) rfl dX3_stops_6 rfl (by show _ < 41; omega) (by first | rfl | exact zb_vp) (fun G hR => ?_)
  refine zz_aload_n (pc := 7) C dX3_stops_7 rfl ?_
  refine zz_get (pc := 8) C in_X3_stops_X3 (ci := 3) rfl 16 (by decide) (fl_X3_stops_59) rfl dX3_stops_8 hR.2.1 rfl ?_
  refine zz_iload_n (pc := 11) C dX3_stops_11 rfl ?_
  refine zz_iload_n (pc := 12) C dX3_stops_12 rfl ?_
  refine zz_mst (pc := 13) C hR 16 (by decide) rfl dX3_stops_13 rfl (by show _ < 41; omega) (fun G hR => ?_)
  refine zz_aload_n (pc := 14) C dX3_stops_14 rfl ?_
  refine zz_get (pc := 15) C in_X3_stops_X3 (ci := 3) rfl 17 (by decide) (fl_X3_stops_62) rfl dX3_stops_15 hR.2.1 rfl ?_
  refine zz_iload_n (pc := 18) C dX3_stops_18 rfl ?_
  refine zz_iconst (pc := 19) C (v := 1) (by decide) dX3_stops_19 ?_
  refine zz_mstz (pc := 20) C hR 17 (by decide) rfl dX3_stops_20 rfl (by show _ < 41; omega) (by first | rfl | exact zb_vp) (fun G hR => ?_)
  refine zz_aload_n (pc := 21) C dX3_stops_21 rfl ?_
  refine zz_iconst (pc := 22) C (v := 3) (by decide) dX3_stops_22 ?_
  refine zz_iconst (pc := 23) C (v := 0) (by decide) dX3_stops_23 ?_
  refine zz_iload_n (pc := 24) C dX3_stops_24 rfl ?_
  refine zz_callV (pc := 25) C (c_X3_appends l D hR (q := q) (ev := (10, k)) (by obtain ⟨hd, h1, h2, h3, h4, h5⟩ := hring; exact ⟨hd, h1, by simpa [zu] using h2, by simpa [zu] using h3, h4, fun i e hi => by simpa [zu] using h5 i e hi⟩) hroom (by show nI 1000 * nI 3 + nI 50 * nI 0 + nI k = _; simp only [pk_mul, nI_add]; rfl)) gX3_stops_X3_appends rfl 3 (by decide +kernel) ⟨Nat.le_of_ble_eq_true rfl, Nat.le_of_ble_eq_true rfl⟩ hR.2.1 (ci := 3) rfl rfl rfl dX3_stops_25 rfl (Nat.le_of_ble_eq_true rfl) rfl ⟨Nat.le_of_ble_eq_true rfl, Nat.le_of_ble_eq_true rfl⟩ ?_
  rintro v G9 ⟨rfl, r2, hR2, hag2, hk2, hring2⟩
  exact zz_return (pc := 28) C dX3_stops_28 (Nat.le_refl _) (Nat.le_refl _) ⟨rfl, r2, hR2, hag2, hk2 23 (by decide), hring2⟩
