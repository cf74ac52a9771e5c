theorem zFind_some {P : Nat → Bool} {b : Nat} : ∀ {n : Nat}, b < n → P b = true → (∀ k, k < b → P k = false) → (List.range n).find? P = some b
  | 0, h, _, _ => absurd h (by omega)
  | n + 1, h, hr, hl => by
    rw [List.range_succ, List.find?_append]
    by_cases hb : b < n
    · rw [zFind_some (n := n) hb hr hl]
      rfl
    · have hbn : b = n := by omega
      subst hbn
      have h9 : (List.range b).find? P = none := by
        rw [List.find?_eq_none]
        intro k hk
        rw [hl k (List.mem_range.mp hk)]
        decide
      rw [h9, List.find?_cons, hr]
      rfl
abbrev zTk (σ : zS) (i k : Nat) : Prop := σ 0 k ≠ 0 ∧ (σ 2 k = nI i ∨ σ 3 k = nI i)
abbrev zFreeN (σ : zS) (i n : Nat) : Prop := σ 0 i = 0 ∧ ∀ k, k < n → ¬ zTk σ i k
def zFreeV (σ : zS) : Int32 := match (List.range 41).find? (fun k => decide (1 ≤ k ∧ zFreeN σ k 41)) with
  | none => -1
  | some k => nI k
def zFreeI (σ : zS) (i : Nat) (x : Int32) : Prop := (x = -1 ∧ ∀ k, i < k → k < 41 → ¬ zFreeN σ k 41) ∨ ∃ b, x = nI b ∧ i < b ∧ b < 41 ∧ zFreeN σ b 41 ∧ ∀ k, i < k → k < b → ¬ zFreeN σ k 41
theorem zFreeI_no {σ : zS} {i : Nat} {x : Int32} (h : zFreeI σ (i + 1) x) (hn : ¬ zFreeN σ (i + 1) 41) : zFreeI σ i x := by
  have e : ∀ k, i < k → k ≠ i + 1 → i + 1 < k := fun k h1 h2 => by omega
  rcases h with ⟨h1, h2⟩ | ⟨b, h1, h2, h3, h4, h5⟩
  · refine Or.inl ⟨h1, fun k hk1 hk2 => ?_⟩
    by_cases hk : k = i + 1
    · rw [hk]; exact hn
    · exact h2 k (e k hk1 hk) hk2
  · refine Or.inr ⟨b, h1, by omega, h3, h4, fun k hk1 hk2 => ?_⟩
    by_cases hk : k = i + 1
    · rw [hk]; exact hn
    · exact h5 k (e k hk1 hk) hk2
theorem zFreeI_yes {σ : zS} {i : Nat} (hi : i + 1 < 41) (hn : zFreeN σ (i + 1) 41) : zFreeI σ i (nI (i + 1)) := Or.inr ⟨i + 1, rfl, by omega, hi, hn, fun k h1 h2 => absurd h1 (by omega)⟩
theorem zFreeI_v {σ : zS} {x : Int32} (h : zFreeI σ 0 x) : x = zFreeV σ := by
  unfold zFreeV
  rcases h with ⟨h1, h2⟩ | ⟨b, h1, h2, h3, h4, h5⟩
  · have h9 : (List.range 41).find? (fun k => decide (1 ≤ k ∧ zFreeN σ k 41)) = none := by
      rw [List.find?_eq_none]
      intro k hk
      rw [decide_eq_true_eq]
      exact fun q => h2 k (by omega) (List.mem_range.mp hk) q.2
    rw [h9]; exact h1
  · have h9 : (List.range 41).find? (fun k => decide (1 ≤ k ∧ zFreeN σ k 41)) = some b := by
      refine zFind_some h3 (decide_eq_true ⟨h2, h4⟩) (fun k hk => decide_eq_false (fun q => h5 k (by omega) hk q.2))
    rw [h9]; exact h1
theorem zFreeV_at {σ : zS} (h : ¬ zFreeV σ = -1) : zFreeV σ = nI (pn (zFreeV σ)) ∧ 1 ≤ pn (zFreeV σ) ∧ pn (zFreeV σ) < 41 ∧ zFreeN σ (pn (zFreeV σ)) 41 := by
  unfold zFreeV at h ⊢
  cases hf : (List.range 41).find? (fun k => decide (1 ≤ k ∧ zFreeN σ k 41)) with
  | none => rw [hf] at h; exact absurd rfl h
  | some b =>
    have h1 := List.find?_some hf
    have h2 := List.mem_range.mp (List.mem_of_find?_eq_some hf)
    rw [decide_eq_true_eq] at h1
    show nI b = nI (pn (nI b)) ∧ 1 ≤ pn (nI b) ∧ pn (nI b) < 41 ∧ zFreeN σ (pn (nI b)) 41
    rw [show pn (nI b) = b from nI_clamp (by omega)]
    exact ⟨rfl, h1.1, h2, h1.2⟩
theorem zFreeN_succ {σ : zS} {i n : Nat} : zFreeN σ i (n + 1) ↔ zFreeN σ i n ∧ ¬ zTk σ i n := by
  unfold zFreeN
  rw [zAll_succ]
  exact ⟨fun h => ⟨⟨h.1, h.2.1⟩, h.2.2⟩, fun h => ⟨h.1.1, h.1.2, h.2⟩⟩
theorem fl_X3_free_7 : Cond.fieldLink RX3 7 "SignalpostModel" "isThere" "[Z" ∈ wsX3_free := by decide +kernel
theorem fl_X3_free_17 : Cond.fieldLink RX3 17 "SignalpostModel" "group" "[I" ∈ wsX3_free := by decide +kernel
theorem fl_X3_free_20 : Cond.fieldLink RX3 20 "SignalpostModel" "session" "[I" ∈ wsX3_free := by decide +kernel
theorem in_X3_free_X3 : ∀ w ∈ u_ws RX3 TX3 29, w ∈ wsX3_free := by decide +kernel
set_option maxHeartbeats 4000000 in
set_option maxRecDepth 100000 in
theorem c_X3_free (l : Launch) (D : va_G) {B G : zG} {y : Nat} {ma : Nat → Nat} {r : zS}  (hR : zModR B y ma r G) (h00 : r 0 0 = 0) : zMet D l yX3_free wsX3_free ({ frames := 0, cells := 0, slots := 0, locals := 0 } : Room) [.ref y] G (fun v G9 => v = some (.int (zFreeV r)) ∧ G9 = G) := by
  refine zMet_of (cc := cX3_free) (maxL := 5) (ret := (some .int)) (by decide) rfl (Nat.le_of_ble_eq_true rfl) ?_
  intro p e s m args below meth c C hmn
  have kL : ∀ (n : Nat) (b9 : Int32), n ≤ 40 → zFreeI r n b9 → zV p l e ({ frames := 0, cells := 0, slots := 0, locals := 0 } : Room) s m args below meth c D (zA G s.heap.size) 0 0 (zZ below D G (fun v G9 => v = some (.int (zFreeV r)) ∧ G9 = G) args s ({ frames := 0, cells := 0, slots := 0, locals := 0 } : Room)) G 5 [some (.ref y), some (.int b9), some (.int (nI (n))), none, none] [] := by
    intro n
    induction n with
    | zero =>
      intro b9 hn hB
      refine zz_iload_n (pc := 5) C dX3_free_5 rfl ?_
      refine zz_if_le (pc := 6) C (tgt := 98) dX3_free_6 (by decide) (fun hc6 => ?_) (fun hc6 => ?_)
      · refine zz_iload_n (pc := 98) C dX3_free_98 rfl ?_
        exact zz_ireturn (pc := 99) C dX3_free_99 rfl (Nat.le_refl _) (Nat.le_refl _) ⟨by rw [zFreeI_v hB], rfl⟩
      · exact absurd (show nI 0 ≤ 0 from by decide) hc6
    | succ n ih =>
      intro b9 hn hB
      have inner : ∀ (m9 j : Nat), j + m9 = 41 → 1 ≤ j → zV p l e ({ frames := 0, cells := 0, slots := 0, locals := 0 } : Room) s m args below meth c D (zA G s.heap.size) 0 0 (zZ below D G (fun v G9 => v = some (.int (zFreeV r)) ∧ G9 = G) args s ({ frames := 0, cells := 0, slots := 0, locals := 0 } : Room)) G 27 [some (.ref y), some (.int b9), some (.int (nI (n + 1))), some (.int (zb (zFreeN r (n + 1) (j)))), some (.int (nI (j)))] [] := by
        intro m9
        induction m9 with
        | zero =>
          intro j hj h1
          have hj41 : j = 41 := by omega
          subst hj41
          refine zz_iload (pc := 27) C dX3_free_27 rfl ?_
          refine zz_bipush (pc := 29) C (v := 40) (by decide) dX3_free_29 ?_
          refine zz_icmp_gt (pc := 31) C (tgt := 82) dX3_free_31 (by decide) (fun hc31 => ?_) (fun hc31 => ?_)
          · refine zz_iload_n (pc := 82) C dX3_free_82 rfl ?_
            refine zz_if_eq (pc := 83) C (tgt := 90) dX3_free_83 (by decide) (fun hc83 => ?_) (fun hc83 => ?_)
            · refine zz_iload_n (pc := 90) C dX3_free_90 rfl ?_
              refine zz_istore_n (pc := 91) C dX3_free_91 (Nat.le_of_ble_eq_true rfl) ?_
              refine zz_iinc (pc := 92) C dX3_free_92 rfl ?_
              refine zz_goto (pc := 95) C (tgt := 5) dX3_free_95 (by decide) ?_
              first
                | exact zV.less (L' := [some (.ref y), some (.int b9), some (.int (nI (n))), none, none]) ⟨rfl, rfl, zvi (zm1 n), trivial⟩ (ih _ (by omega) (zFreeI_no hB (zb_eq.mp hc83)))
                | exact zV.less (L' := [some (.ref y), some (.int (nI (n + 1))), some (.int (nI (n))), none, none]) ⟨rfl, rfl, zvi (zm1 n), trivial⟩ (ih _ (by omega) (zFreeI_yes (by omega) (zbp hc83)))
            · refine zz_iload_n (pc := 86) C dX3_free_86 rfl ?_
              refine zz_goto (pc := 87) C (tgt := 91) dX3_free_87 (by decide) ?_
              refine zz_istore_n (pc := 91) C dX3_free_91 (Nat.le_of_ble_eq_true rfl) ?_
              refine zz_iinc (pc := 92) C dX3_free_92 rfl ?_
              refine zz_goto (pc := 95) C (tgt := 5) dX3_free_95 (by decide) ?_
              first
                | exact zV.less (L' := [some (.ref y), some (.int b9), some (.int (nI (n))), none, none]) ⟨rfl, rfl, zvi (zm1 n), trivial⟩ (ih _ (by omega) (zFreeI_no hB (zb_eq.mp hc83)))
                | exact zV.less (L' := [some (.ref y), some (.int (nI (n + 1))), some (.int (nI (n))), none, none]) ⟨rfl, rfl, zvi (zm1 n), trivial⟩ (ih _ (by omega) (zFreeI_yes (by omega) (zbp hc83)))
          · exact absurd z41 hc31
        | succ m9 ih2 =>
          intro j hj h1
          refine zz_iload (pc := 27) C dX3_free_27 rfl ?_
          refine zz_bipush (pc := 29) C (v := 40) (by decide) dX3_free_29 ?_
          refine zz_icmp_gt (pc := 31) C (tgt := 82) dX3_free_31 (by decide) (fun hc31 => ?_) (fun hc31 => ?_)
          · exact absurd hc31 (z40 (by omega))
          · refine zz_iload_n (pc := 34) C dX3_free_34 rfl ?_
            refine zz_if_eq (pc := 35) C (tgt := 74) dX3_free_35 (by decide) (fun hc35 => ?_) (fun hc35 => ?_)
            · refine zz_iconst (pc := 74) C (v := 0) (by decide) dX3_free_74 ?_
              refine zz_istore_n (pc := 75) C dX3_free_75 (Nat.le_of_ble_eq_true rfl) ?_
              refine zz_iinc (pc := 76) C dX3_free_76 rfl ?_
              refine zz_goto (pc := 79) C (tgt := 27) dX3_free_79 (by decide) ?_
              first
                | exact zV.less (L' := [some (.ref y), some (.int b9), some (.int (nI (n + 1))), some (.int (zb (zFreeN r (n + 1) (j + 1)))), some (.int (nI (j + 1)))]) ⟨rfl, rfl, rfl, zvf (fun z => zb_eq.mp hc35 (zFreeN_succ.mp z).1), zvi (z1i j), trivial⟩ (ih2 (j + 1) (by omega) (by omega))
                | exact zV.less (L' := [some (.ref y), some (.int b9), some (.int (nI (n + 1))), some (.int (zb (zFreeN r (n + 1) (j + 1)))), some (.int (nI (j + 1)))]) ⟨rfl, rfl, rfl, zvt (zFreeN_succ.mpr ⟨zbp hc35, fun z => z.1 hc45⟩), zvi (z1i j), trivial⟩ (ih2 (j + 1) (by omega) (by omega))
                | exact zV.less (L' := [some (.ref y), some (.int b9), some (.int (nI (n + 1))), some (.int (zb (zFreeN r (n + 1) (j + 1)))), some (.int (nI (j + 1)))]) ⟨rfl, rfl, rfl, zvf (fun z => (zFreeN_succ.mp z).2 ⟨hc45, Or.inl hc56⟩), zvi (z1i j), trivial⟩ (ih2 (j + 1) (by omega) (by omega))
                | exact zV.less (L' := [some (.ref y), some (.int b9), some (.int (nI (n + 1))), some (.int (zb (zFreeN r (n + 1) (j + 1)))), some (.int (nI (j + 1)))]) ⟨rfl, rfl, rfl, zvf (fun z => (zFreeN_succ.mp z).2 ⟨hc45, Or.inr hc67⟩), zvi (z1i j), trivial⟩ (ih2 (j + 1) (by omega) (by omega))
                | exact zV.less (L' := [some (.ref y), some (.int b9), some (.int (nI (n + 1))), some (.int (zb (zFreeN r (n + 1) (j + 1)))), some (.int (nI (j + 1)))]) ⟨rfl, rfl, rfl, zvt (zFreeN_succ.mpr ⟨zbp hc35, fun z => z.2.elim hc56 hc67⟩), zvi (z1i j), trivial⟩ (ih2 (j + 1) (by omega) (by omega))
            · refine zz_aload_n (pc := 38) C dX3_free_38 rfl ?_
              refine zz_get (pc := 39) C in_X3_free_X3 (ci := 3) rfl 0 (by decide) (fl_X3_free_7) rfl dX3_free_39 hR.2.1 rfl ?_
              refine zz_iload (pc := 42) C dX3_free_42 rfl ?_
              refine zz_mldz (pc := 44) C hR 0 (by decide) rfl dX3_free_44 rfl (by show _ < 41; omega) ?_
              refine zz_if_eq (pc := 45) C (tgt := 70) dX3_free_45 (by decide) (fun hc45 => ?_) (fun hc45 => ?_)
              · refine zz_iconst (pc := 70) C (v := 1) (by decide) dX3_free_70 ?_
                refine zz_goto (pc := 71) C (tgt := 75) dX3_free_71 (by decide) ?_
                refine zz_istore_n (pc := 75) C dX3_free_75 (Nat.le_of_ble_eq_true rfl) ?_
                refine zz_iinc (pc := 76) C dX3_free_76 rfl ?_
                refine zz_goto (pc := 79) C (tgt := 27) dX3_free_79 (by decide) ?_
                first
                  | exact zV.less (L' := [some (.ref y), some (.int b9), some (.int (nI (n + 1))), some (.int (zb (zFreeN r (n + 1) (j + 1)))), some (.int (nI (j + 1)))]) ⟨rfl, rfl, rfl, zvf (fun z => zb_eq.mp hc35 (zFreeN_succ.mp z).1), zvi (z1i j), trivial⟩ (ih2 (j + 1) (by omega) (by omega))
                  | exact zV.less (L' := [some (.ref y), some (.int b9), some (.int (nI (n + 1))), some (.int (zb (zFreeN r (n + 1) (j + 1)))), some (.int (nI (j + 1)))]) ⟨rfl, rfl, rfl, zvt (zFreeN_succ.mpr ⟨zbp hc35, fun z => z.1 hc45⟩), zvi (z1i j), trivial⟩ (ih2 (j + 1) (by omega) (by omega))
                  | exact zV.less (L' := [some (.ref y), some (.int b9), some (.int (nI (n + 1))), some (.int (zb (zFreeN r (n + 1) (j + 1)))), some (.int (nI (j + 1)))]) ⟨rfl, rfl, rfl, zvf (fun z => (zFreeN_succ.mp z).2 ⟨hc45, Or.inl hc56⟩), zvi (z1i j), trivial⟩ (ih2 (j + 1) (by omega) (by omega))
                  | exact zV.less (L' := [some (.ref y), some (.int b9), some (.int (nI (n + 1))), some (.int (zb (zFreeN r (n + 1) (j + 1)))), some (.int (nI (j + 1)))]) ⟨rfl, rfl, rfl, zvf (fun z => (zFreeN_succ.mp z).2 ⟨hc45, Or.inr hc67⟩), zvi (z1i j), trivial⟩ (ih2 (j + 1) (by omega) (by omega))
                  | exact zV.less (L' := [some (.ref y), some (.int b9), some (.int (nI (n + 1))), some (.int (zb (zFreeN r (n + 1) (j + 1)))), some (.int (nI (j + 1)))]) ⟨rfl, rfl, rfl, zvt (zFreeN_succ.mpr ⟨zbp hc35, fun z => z.2.elim hc56 hc67⟩), zvi (z1i j), trivial⟩ (ih2 (j + 1) (by omega) (by omega))
              · refine zz_aload_n (pc := 48) C dX3_free_48 rfl ?_
                refine zz_get (pc := 49) C in_X3_free_X3 (ci := 3) rfl 2 (by decide) (fl_X3_free_17) rfl dX3_free_49 hR.2.1 rfl ?_
                refine zz_iload (pc := 52) C dX3_free_52 rfl ?_
                refine zz_mld (pc := 54) C hR 2 (by decide) rfl dX3_free_54 rfl (by show _ < 41; omega) ?_
                refine zz_iload_n (pc := 55) C dX3_free_55 rfl ?_
                refine zz_icmp_eq (pc := 56) C (tgt := 74) dX3_free_56 (by decide) (fun hc56 => ?_) (fun hc56 => ?_)
                · refine zz_iconst (pc := 74) C (v := 0) (by decide) dX3_free_74 ?_
                  refine zz_istore_n (pc := 75) C dX3_free_75 (Nat.le_of_ble_eq_true rfl) ?_
                  refine zz_iinc (pc := 76) C dX3_free_76 rfl ?_
                  refine zz_goto (pc := 79) C (tgt := 27) dX3_free_79 (by decide) ?_
                  first
                    | exact zV.less (L' := [some (.ref y), some (.int b9), some (.int (nI (n + 1))), some (.int (zb (zFreeN r (n + 1) (j + 1)))), some (.int (nI (j + 1)))]) ⟨rfl, rfl, rfl, zvf (fun z => zb_eq.mp hc35 (zFreeN_succ.mp z).1), zvi (z1i j), trivial⟩ (ih2 (j + 1) (by omega) (by omega))
                    | exact zV.less (L' := [some (.ref y), some (.int b9), some (.int (nI (n + 1))), some (.int (zb (zFreeN r (n + 1) (j + 1)))), some (.int (nI (j + 1)))]) ⟨rfl, rfl, rfl, zvt (zFreeN_succ.mpr ⟨zbp hc35, fun z => z.1 hc45⟩), zvi (z1i j), trivial⟩ (ih2 (j + 1) (by omega) (by omega))
                    | exact zV.less (L' := [some (.ref y), some (.int b9), some (.int (nI (n + 1))), some (.int (zb (zFreeN r (n + 1) (j + 1)))), some (.int (nI (j + 1)))]) ⟨rfl, rfl, rfl, zvf (fun z => (zFreeN_succ.mp z).2 ⟨hc45, Or.inl hc56⟩), zvi (z1i j), trivial⟩ (ih2 (j + 1) (by omega) (by omega))
                    | exact zV.less (L' := [some (.ref y), some (.int b9), some (.int (nI (n + 1))), some (.int (zb (zFreeN r (n + 1) (j + 1)))), some (.int (nI (j + 1)))]) ⟨rfl, rfl, rfl, zvf (fun z => (zFreeN_succ.mp z).2 ⟨hc45, Or.inr hc67⟩), zvi (z1i j), trivial⟩ (ih2 (j + 1) (by omega) (by omega))
                    | exact zV.less (L' := [some (.ref y), some (.int b9), some (.int (nI (n + 1))), some (.int (zb (zFreeN r (n + 1) (j + 1)))), some (.int (nI (j + 1)))]) ⟨rfl, rfl, rfl, zvt (zFreeN_succ.mpr ⟨zbp hc35, fun z => z.2.elim hc56 hc67⟩), zvi (z1i j), trivial⟩ (ih2 (j + 1) (by omega) (by omega))
                · refine zz_aload_n (pc := 59) C dX3_free_59 rfl ?_
                  refine zz_get (pc := 60) C in_X3_free_X3 (ci := 3) rfl 3 (by decide) (fl_X3_free_20) rfl dX3_free_60 hR.2.1 rfl ?_
                  refine zz_iload (pc := 63) C dX3_free_63 rfl ?_
                  refine zz_mld (pc := 65) C hR 3 (by decide) rfl dX3_free_65 rfl (by show _ < 41; omega) ?_
                  refine zz_iload_n (pc := 66) C dX3_free_66 rfl ?_
                  refine zz_icmp_eq (pc := 67) C (tgt := 74) dX3_free_67 (by decide) (fun hc67 => ?_) (fun hc67 => ?_)
                  · refine zz_iconst (pc := 74) C (v := 0) (by decide) dX3_free_74 ?_
                    refine zz_istore_n (pc := 75) C dX3_free_75 (Nat.le_of_ble_eq_true rfl) ?_
                    refine zz_iinc (pc := 76) C dX3_free_76 rfl ?_
                    refine zz_goto (pc := 79) C (tgt := 27) dX3_free_79 (by decide) ?_
                    first
                      | exact zV.less (L' := [some (.ref y), some (.int b9), some (.int (nI (n + 1))), some (.int (zb (zFreeN r (n + 1) (j + 1)))), some (.int (nI (j + 1)))]) ⟨rfl, rfl, rfl, zvf (fun z => zb_eq.mp hc35 (zFreeN_succ.mp z).1), zvi (z1i j), trivial⟩ (ih2 (j + 1) (by omega) (by omega))
                      | exact zV.less (L' := [some (.ref y), some (.int b9), some (.int (nI (n + 1))), some (.int (zb (zFreeN r (n + 1) (j + 1)))), some (.int (nI (j + 1)))]) ⟨rfl, rfl, rfl, zvt (zFreeN_succ.mpr ⟨zbp hc35, fun z => z.1 hc45⟩), zvi (z1i j), trivial⟩ (ih2 (j + 1) (by omega) (by omega))
                      | exact zV.less (L' := [some (.ref y), some (.int b9), some (.int (nI (n + 1))), some (.int (zb (zFreeN r (n + 1) (j + 1)))), some (.int (nI (j + 1)))]) ⟨rfl, rfl, rfl, zvf (fun z => (zFreeN_succ.mp z).2 ⟨hc45, Or.inl hc56⟩), zvi (z1i j), trivial⟩ (ih2 (j + 1) (by omega) (by omega))
                      | exact zV.less (L' := [some (.ref y), some (.int b9), some (.int (nI (n + 1))), some (.int (zb (zFreeN r (n + 1) (j + 1)))), some (.int (nI (j + 1)))]) ⟨rfl, rfl, rfl, zvf (fun z => (zFreeN_succ.mp z).2 ⟨hc45, Or.inr hc67⟩), zvi (z1i j), trivial⟩ (ih2 (j + 1) (by omega) (by omega))
                      | exact zV.less (L' := [some (.ref y), some (.int b9), some (.int (nI (n + 1))), some (.int (zb (zFreeN r (n + 1) (j + 1)))), some (.int (nI (j + 1)))]) ⟨rfl, rfl, rfl, zvt (zFreeN_succ.mpr ⟨zbp hc35, fun z => z.2.elim hc56 hc67⟩), zvi (z1i j), trivial⟩ (ih2 (j + 1) (by omega) (by omega))
                  · refine zz_iconst (pc := 70) C (v := 1) (by decide) dX3_free_70 ?_
                    refine zz_goto (pc := 71) C (tgt := 75) dX3_free_71 (by decide) ?_
                    refine zz_istore_n (pc := 75) C dX3_free_75 (Nat.le_of_ble_eq_true rfl) ?_
                    refine zz_iinc (pc := 76) C dX3_free_76 rfl ?_
                    refine zz_goto (pc := 79) C (tgt := 27) dX3_free_79 (by decide) ?_
                    first
                      | exact zV.less (L' := [some (.ref y), some (.int b9), some (.int (nI (n + 1))), some (.int (zb (zFreeN r (n + 1) (j + 1)))), some (.int (nI (j + 1)))]) ⟨rfl, rfl, rfl, zvf (fun z => zb_eq.mp hc35 (zFreeN_succ.mp z).1), zvi (z1i j), trivial⟩ (ih2 (j + 1) (by omega) (by omega))
                      | exact zV.less (L' := [some (.ref y), some (.int b9), some (.int (nI (n + 1))), some (.int (zb (zFreeN r (n + 1) (j + 1)))), some (.int (nI (j + 1)))]) ⟨rfl, rfl, rfl, zvt (zFreeN_succ.mpr ⟨zbp hc35, fun z => z.1 hc45⟩), zvi (z1i j), trivial⟩ (ih2 (j + 1) (by omega) (by omega))
                      | exact zV.less (L' := [some (.ref y), some (.int b9), some (.int (nI (n + 1))), some (.int (zb (zFreeN r (n + 1) (j + 1)))), some (.int (nI (j + 1)))]) ⟨rfl, rfl, rfl, zvf (fun z => (zFreeN_succ.mp z).2 ⟨hc45, Or.inl hc56⟩), zvi (z1i j), trivial⟩ (ih2 (j + 1) (by omega) (by omega))
                      | exact zV.less (L' := [some (.ref y), some (.int b9), some (.int (nI (n + 1))), some (.int (zb (zFreeN r (n + 1) (j + 1)))), some (.int (nI (j + 1)))]) ⟨rfl, rfl, rfl, zvf (fun z => (zFreeN_succ.mp z).2 ⟨hc45, Or.inr hc67⟩), zvi (z1i j), trivial⟩ (ih2 (j + 1) (by omega) (by omega))
                      | exact zV.less (L' := [some (.ref y), some (.int b9), some (.int (nI (n + 1))), some (.int (zb (zFreeN r (n + 1) (j + 1)))), some (.int (nI (j + 1)))]) ⟨rfl, rfl, rfl, zvt (zFreeN_succ.mpr ⟨zbp hc35, fun z => z.2.elim hc56 hc67⟩), zvi (z1i j), trivial⟩ (ih2 (j + 1) (by omega) (by omega))
      refine zz_iload_n (pc := 5) C dX3_free_5 rfl ?_
      refine zz_if_le (pc := 6) C (tgt := 98) dX3_free_6 (by decide) (fun hc6 => ?_) (fun hc6 => ?_)
      · exact absurd hc6 (nI_nle (n := n + 1) (by omega) (by omega))
      · refine zz_aload_n (pc := 9) C dX3_free_9 rfl ?_
        refine zz_get (pc := 10) C in_X3_free_X3 (ci := 3) rfl 0 (by decide) (fl_X3_free_7) rfl dX3_free_10 hR.2.1 rfl ?_
        refine zz_iload_n (pc := 13) C dX3_free_13 rfl ?_
        refine zz_mldz (pc := 14) C hR 0 (by decide) rfl dX3_free_14 rfl (by show _ < 41; omega) ?_
        refine zz_if_ne (pc := 15) C (tgt := 22) dX3_free_15 (by decide) (fun hc15 => ?_) (fun hc15 => ?_)
        · refine zz_iconst (pc := 22) C (v := 0) (by decide) dX3_free_22 ?_
          refine zz_istore_n (pc := 23) C dX3_free_23 (Nat.le_of_ble_eq_true rfl) ?_
          refine zz_iconst (pc := 24) C (v := 1) (by decide) dX3_free_24 ?_
          refine zz_istore (pc := 25) C dX3_free_25 (Nat.le_of_ble_eq_true rfl) ?_
          first
            | exact zV.less (L' := [some (.ref y), some (.int b9), some (.int (nI (n + 1))), some (.int (zb (zFreeN r (n + 1) (1)))), some (.int (nI (1)))]) ⟨rfl, rfl, rfl, zvt ⟨Classical.not_not.mp hc15, fun k hk z => by have h9 : k = 0 := (by omega); subst h9; exact z.1 h00⟩, zvi rfl, trivial⟩ (inner 40 1 rfl (Nat.le_refl _))
            | exact zV.less (L' := [some (.ref y), some (.int b9), some (.int (nI (n + 1))), some (.int (zb (zFreeN r (n + 1) (1)))), some (.int (nI (1)))]) ⟨rfl, rfl, rfl, zvf (fun z => hc15 z.1), zvi rfl, trivial⟩ (inner 40 1 rfl (Nat.le_refl _))
        · refine zz_iconst (pc := 18) C (v := 1) (by decide) dX3_free_18 ?_
          refine zz_goto (pc := 19) C (tgt := 23) dX3_free_19 (by decide) ?_
          refine zz_istore_n (pc := 23) C dX3_free_23 (Nat.le_of_ble_eq_true rfl) ?_
          refine zz_iconst (pc := 24) C (v := 1) (by decide) dX3_free_24 ?_
          refine zz_istore (pc := 25) C dX3_free_25 (Nat.le_of_ble_eq_true rfl) ?_
          first
            | exact zV.less (L' := [some (.ref y), some (.int b9), some (.int (nI (n + 1))), some (.int (zb (zFreeN r (n + 1) (1)))), some (.int (nI (1)))]) ⟨rfl, rfl, rfl, zvt ⟨Classical.not_not.mp hc15, fun k hk z => by have h9 : k = 0 := (by omega); subst h9; exact z.1 h00⟩, zvi rfl, trivial⟩ (inner 40 1 rfl (Nat.le_refl _))
            | exact zV.less (L' := [some (.ref y), some (.int b9), some (.int (nI (n + 1))), some (.int (zb (zFreeN r (n + 1) (1)))), some (.int (nI (1)))]) ⟨rfl, rfl, rfl, zvf (fun z => hc15 z.1), zvi rfl, trivial⟩ (inner 40 1 rfl (Nat.le_refl _))
  refine zz_iconst (pc := 0) C (v := -1) (by decide) dX3_free_0 ?_
  refine zz_istore_n (pc := 1) C dX3_free_1 (Nat.le_of_ble_eq_true rfl) ?_
  refine zz_bipush (pc := 2) C (v := 40) (by decide) dX3_free_2 ?_
  refine zz_istore_n (pc := 4) C dX3_free_4 (Nat.le_of_ble_eq_true rfl) ?_
  exact zV.less (L' := [some (.ref y), some (.int (-1)), some (.int (nI (40))), none, none]) ⟨rfl, rfl, zvi rfl, trivial⟩ (kL 40 (-1) (Nat.le_refl _) (Or.inl ⟨rfl, fun k h1 h2 => absurd h1 (by omega)⟩))
def zForkA (τ : zS) (p f n : Nat) : zS := fun g j => if g = 9 ∧ 9 * f ≤ j ∧ j < 9 * f + n then τ 9 (9 * p + (j - 9 * f)) else τ g j
theorem zForkA_0 {τ : zS} {p f : Nat} : zForkA τ p f 0 = τ := by
  funext g j
  unfold zForkA
  rw [if_neg (by omega)]
theorem zForkA_succ {τ : zS} {p f n : Nat} : zForkA τ p f (n + 1) = zu (zForkA τ p f n) 9 (9 * f + n) (τ 9 (9 * p + n)) := by
  funext g j
  unfold zForkA zu
  by_cases hg : g = 9
  · by_cases hj : j = 9 * f + n
    · subst hj
      rw [if_pos ⟨hg, by omega, by omega⟩, if_pos hg, if_pos rfl, show 9 * f + n - 9 * f = n by omega]
    · have e : (9 * f ≤ j ∧ j < 9 * f + (n + 1)) ↔ (9 * f ≤ j ∧ j < 9 * f + n) := by omega
      simp only [hg, e, hj, if_true, if_false, true_and]
  · simp only [hg, if_false, false_and]
theorem zForkA_off {τ : zS} {p f n g : Nat} (h : g ≠ 9) : zForkA τ p f n g = τ g := by
  funext j
  unfold zForkA
  rw [if_neg (fun z => h z.1)]
theorem zForkA_at {τ : zS} {p f n i : Nat} (h : p ≠ f) (hi : i < 9) (hn : n ≤ 9) : zForkA τ p f n 9 (9 * p + i) = τ 9 (9 * p + i) := by
  unfold zForkA
  rw [if_neg (by omega)]
def zFork1 (σ : zS) (x : Int32) (f : Nat) : zS := zu (zu (zu (zu (zu (zu (zu σ 0 f 1) 1 f x) 2 f (σ 2 (pn x))) 3 f (σ 3 (pn x))) 4 f 0) 5 f 0) 6 f 0
def zFork3 (τ : zS) (p f : Nat) : zS := zu (zu (zu (zu (zu (zu (zu (zu τ 10 f (τ 10 p)) 11 f 0) 12 f 0) 13 f 0) 17 f 0) 18 f (-1)) 19 f (-1)) 20 f (-1)
def zFork (σ : zS) (x : Int32) (f : Nat) : zS := zFork3 (zForkA (zFork1 σ x f) (pn x) f 9) (pn x) f
theorem zFork1_ag {σ t : zS} {x : Int32} {f : Nat} {w : Int32} (h : zAg (zMix σ t) σ) : zAg (zu (zu (zu (zu (zu (zu (zu (zu (zMix σ t) 23 0 w) 0 f 1) 1 f x) 2 f (σ 2 (pn x))) 3 f (σ 3 (pn x))) 4 f 0) 5 f 0) 6 f 0) (zFork1 σ x f) := zAg_zu (zAg_zu (zAg_zu (zAg_zu (zAg_zu (zAg_zu (zAg_zu (zAg_off h (by decide))))))))
theorem zFork3_ag {r τ : zS} {p f : Nat} (h : zAg r τ) : zAg (zu (zu (zu (zu (zu (zu (zu (zu r 10 f (r 10 p)) 11 f 0) 12 f 0) 13 f 0) 17 f 0) 18 f (-1)) 19 f (-1)) 20 f (-1)) (zFork3 τ p f) := by
  unfold zFork3
  rw [← h 10 (by decide)]
  exact zAg_zu (zAg_zu (zAg_zu (zAg_zu (zAg_zu (zAg_zu (zAg_zu (zAg_zu h)))))))
theorem z9ix {x : Int32} {a i : Nat} (hx : x = nI a) : 9 * x + nI i = nI (9 * a + i) := by
  subst hx
  rw [show (9 : Int32) * nI a = nI (9 * a) from pk_mul 9 a]
  exact nI_add _ i
theorem z9lt {i : Nat} (h : i < 9) : ¬ (9 : Int32) ≤ nI i := fun z => by
  have := (nI_leI (a := 9) (b := i) (by decide) (by omega)).mp z
  omega
theorem z99 : (9 : Int32) ≤ nI 9 := by decide
theorem fl_X3_fork_7 : Cond.fieldLink RX3 7 "SignalpostModel" "isThere" "[Z" ∈ wsX3_fork := by decide +kernel
theorem fl_X3_fork_13 : Cond.fieldLink RX3 13 "SignalpostModel" "parent" "[I" ∈ wsX3_fork := by decide +kernel
theorem fl_X3_fork_17 : Cond.fieldLink RX3 17 "SignalpostModel" "group" "[I" ∈ wsX3_fork := by decide +kernel
theorem fl_X3_fork_20 : Cond.fieldLink RX3 20 "SignalpostModel" "session" "[I" ∈ wsX3_fork := by decide +kernel
theorem fl_X3_fork_23 : Cond.fieldLink RX3 23 "SignalpostModel" "isZombie" "[Z" ∈ wsX3_fork := by decide +kernel
theorem fl_X3_fork_26 : Cond.fieldLink RX3 26 "SignalpostModel" "isStopped" "[Z" ∈ wsX3_fork := by decide +kernel
theorem fl_X3_fork_29 : Cond.fieldLink RX3 29 "SignalpostModel" "isWaiting" "[Z" ∈ wsX3_fork := by decide +kernel
theorem fl_X3_fork_38 : Cond.fieldLink RX3 38 "SignalpostModel" "action" "[I" ∈ wsX3_fork := by decide +kernel
theorem fl_X3_fork_41 : Cond.fieldLink RX3 41 "SignalpostModel" "mask" "[I" ∈ wsX3_fork := by decide +kernel
theorem fl_X3_fork_44 : Cond.fieldLink RX3 44 "SignalpostModel" "pending" "[I" ∈ wsX3_fork := by decide +kernel
theorem fl_X3_fork_47 : Cond.fieldLink RX3 47 "SignalpostModel" "caught" "[I" ∈ wsX3_fork := by decide +kernel
theorem fl_X3_fork_50 : Cond.fieldLink RX3 50 "SignalpostModel" "isReaper" "[Z" ∈ wsX3_fork := by decide +kernel
theorem fl_X3_fork_62 : Cond.fieldLink RX3 62 "SignalpostModel" "isNews" "[Z" ∈ wsX3_fork := by decide +kernel
theorem fl_X3_fork_65 : Cond.fieldLink RX3 65 "SignalpostModel" "waitResult" "[I" ∈ wsX3_fork := by decide +kernel
theorem fl_X3_fork_68 : Cond.fieldLink RX3 68 "SignalpostModel" "reported" "[I" ∈ wsX3_fork := by decide +kernel
theorem fl_X3_fork_71 : Cond.fieldLink RX3 71 "SignalpostModel" "reportedValue" "[I" ∈ wsX3_fork := by decide +kernel
theorem in_X3_fork_X3 : ∀ w ∈ u_ws RX3 TX3 29, w ∈ wsX3_fork := by decide +kernel
set_option maxHeartbeats 4000000 in
set_option maxRecDepth 100000 in
theorem c_X3_fork (l : Launch) (D : va_G) {B G : zG} {y : Nat} {ma : Nat → Nat} {r : zS} {σ : zS} {x : Int32} (hR : zModR B y ma r G) (hag : zAg r σ) (hring : zRing r []) (h00 : σ 0 0 = 0) : zMet D l yX3_fork wsX3_fork ({ frames := 1, cells := 0, slots := 0, locals := 24 } : Room) [.ref y, .int x] G (fun v G9 => v = some (.int (if zE2 (¬ zHere σ x) (¬ zRunN σ (pn x) ∨ zFreeV σ = -1) = 0 then zFreeV σ else 0)) ∧ zMod B y ma (if zE2 (¬ zHere σ x) (¬ zRunN σ (pn x) ∨ zFreeV σ = -1) = 0 then zFork σ x (pn (zFreeV σ)) else σ) [] (zE2 (¬ zHere σ x) (¬ zRunN σ (pn x) ∨ zFreeV σ = -1)) G9) := by
  refine zMet_of (cc := cX3_fork) (maxL := 4) (ret := (some .int)) (by decide) rfl (Nat.le_of_ble_eq_true rfl) ?_
  intro p e s m args below meth c C hmn
  obtain ⟨t9, rfl⟩ : ∃ t9, r = zMix σ t9 := ⟨r, zMix_of hag⟩
  have k0 : zE2 (¬ zHere σ x) (¬ zRunN σ (pn x) ∨ zFreeV σ = -1) = 0 → zV p l e ({ frames := 1, cells := 0, slots := 0, locals := 24 } : Room) s m args below meth c D (zA G s.heap.size) 0 0 (zZ below D G (fun v G9 => v = some (.int (if zE2 (¬ zHere σ x) (¬ zRunN σ (pn x) ∨ zFreeV σ = -1) = 0 then zFreeV σ else 0)) ∧ zMod B y ma (if zE2 (¬ zHere σ x) (¬ zRunN σ (pn x) ∨ zFreeV σ = -1) = 0 then zFork σ x (pn (zFreeV σ)) else σ) [] (zE2 (¬ zHere σ x) (¬ zRunN σ (pn x) ∨ zFreeV σ = -1)) G9) args s ({ frames := 1, cells := 0, slots := 0, locals := 24 } : Room)) G 36 [some (.ref y), some (.int x), some (.int (zFreeV σ)), none] [.int 0, .ref y] := by
    intro hT
    have hag0 := hag
    have hH : zHere σ x := Classical.not_not.mp (zE2_z hT).1
    have hx := hH.at
    have hf := zFreeV_at (σ := σ) (fun z => (zE2_z hT).2 (Or.inr z))
    have hpf : pn x ≠ pn (zFreeV σ) := fun z => hH.2.2 (by rw [z]; exact hf.2.2.2.1)
    have loop : ∀ (n i : Nat) (r1 : zS) (G1 : zG), i + n = 9 → zModR B y ma r1 G1 → zAg r1 (zForkA (zFork1 σ x (pn (zFreeV σ))) (pn x) (pn (zFreeV σ)) (i)) → r1 23 0 = 0 → zRing r1 [] → zV p l e ({ frames := 1, cells := 0, slots := 0, locals := 24 } : Room) s m args below meth c D (zA G s.heap.size) 0 0 (zZ below D G (fun v G9 => v = some (.int (if zE2 (¬ zHere σ x) (¬ zRunN σ (pn x) ∨ zFreeV σ = -1) = 0 then zFreeV σ else 0)) ∧ zMod B y ma (if zE2 (¬ zHere σ x) (¬ zRunN σ (pn x) ∨ zFreeV σ = -1) = 0 then zFork σ x (pn (zFreeV σ)) else σ) [] (zE2 (¬ zHere σ x) (¬ zRunN σ (pn x) ∨ zFreeV σ = -1)) G9) args s ({ frames := 1, cells := 0, slots := 0, locals := 24 } : Room)) G1 105 [some (.ref y), some (.int x), some (.int (zFreeV σ)), some (.int (nI (i)))] [] := by
      intro n
      induction n with
      | zero =>
        intro i r1 G1 hi hR hag1 h231 hring1
        have hi9 : i = 9 := by omega
        subst hi9
        refine zz_iload_n (pc := 105) C dX3_fork_105 rfl ?_
        refine zz_bipush (pc := 106) C (v := 9) (by decide) dX3_fork_106 ?_
        refine zz_icmp_ge (pc := 108) C (tgt := 139) dX3_fork_108 (by decide) (fun hc108 => ?_) (fun hc108 => ?_)
        · refine zz_aload_n (pc := 139) C dX3_fork_139 rfl ?_
          refine zz_get (pc := 140) C in_X3_fork_X3 (ci := 3) rfl 10 (by decide) (fl_X3_fork_41) rfl dX3_fork_140 hR.2.1 rfl ?_
          refine zz_iload_n (pc := 143) C dX3_fork_143 rfl ?_
          refine zz_aload_n (pc := 144) C dX3_fork_144 rfl ?_
          refine zz_get (pc := 145) C in_X3_fork_X3 (ci := 3) rfl 10 (by decide) (fl_X3_fork_41) rfl dX3_fork_145 hR.2.1 rfl ?_
          refine zz_iload_n (pc := 148) C dX3_fork_148 rfl ?_
          refine zz_mld (pc := 149) C hR 10 (by decide) rfl dX3_fork_149 hx.1 (by show _ < 41; have := hx.2.2; omega) ?_
          refine zz_mst (pc := 150) C hR 10 (by decide) rfl dX3_fork_150 hf.1 (by show _ < 41; have := hf.2.2.1; omega) (fun G hR => ?_)
          refine zz_aload_n (pc := 151) C dX3_fork_151 rfl ?_
          refine zz_get (pc := 152) C in_X3_fork_X3 (ci := 3) rfl 11 (by decide) (fl_X3_fork_44) rfl dX3_fork_152 hR.2.1 rfl ?_
          refine zz_iload_n (pc := 155) C dX3_fork_155 rfl ?_
          refine zz_iconst (pc := 156) C (v := 0) (by decide) dX3_fork_156 ?_
          refine zz_mst (pc := 157) C hR 11 (by decide) rfl dX3_fork_157 hf.1 (by show _ < 41; have := hf.2.2.1; omega) (fun G hR => ?_)
          refine zz_aload_n (pc := 158) C dX3_fork_158 rfl ?_
          refine zz_get (pc := 159) C in_X3_fork_X3 (ci := 3) rfl 12 (by decide) (fl_X3_fork_47) rfl dX3_fork_159 hR.2.1 rfl ?_
          refine zz_iload_n (pc := 162) C dX3_fork_162 rfl ?_
          refine zz_iconst (pc := 163) C (v := 0) (by decide) dX3_fork_163 ?_
          refine zz_mst (pc := 164) C hR 12 (by decide) rfl dX3_fork_164 hf.1 (by show _ < 41; have := hf.2.2.1; omega) (fun G hR => ?_)
          refine zz_aload_n (pc := 165) C dX3_fork_165 rfl ?_
          refine zz_get (pc := 166) C in_X3_fork_X3 (ci := 3) rfl 13 (by decide) (fl_X3_fork_50) rfl dX3_fork_166 hR.2.1 rfl ?_
          refine zz_iload_n (pc := 169) C dX3_fork_169 rfl ?_
          refine zz_iconst (pc := 170) C (v := 0) (by decide) dX3_fork_170 ?_
          refine zz_mstz (pc := 171) C hR 13 (by decide) rfl dX3_fork_171 hf.1 (by show _ < 41; have := hf.2.2.1; omega) (by first | rfl | exact zb_vp) (fun G hR => ?_)
          refine zz_aload_n (pc := 172) C dX3_fork_172 rfl ?_
          refine zz_get (pc := 173) C in_X3_fork_X3 (ci := 3) rfl 17 (by decide) (fl_X3_fork_62) rfl dX3_fork_173 hR.2.1 rfl ?_
          refine zz_iload_n (pc := 176) C dX3_fork_176 rfl ?_
          refine zz_iconst (pc := 177) C (v := 0) (by decide) dX3_fork_177 ?_
          refine zz_mstz (pc := 178) C hR 17 (by decide) rfl dX3_fork_178 hf.1 (by show _ < 41; have := hf.2.2.1; omega) (by first | rfl | exact zb_vp) (fun G hR => ?_)
          refine zz_aload_n (pc := 179) C dX3_fork_179 rfl ?_
          refine zz_get (pc := 180) C in_X3_fork_X3 (ci := 3) rfl 18 (by decide) (fl_X3_fork_65) rfl dX3_fork_180 hR.2.1 rfl ?_
          refine zz_iload_n (pc := 183) C dX3_fork_183 rfl ?_
          refine zz_iconst (pc := 184) C (v := -1) (by decide) dX3_fork_184 ?_
          refine zz_mst (pc := 185) C hR 18 (by decide) rfl dX3_fork_185 hf.1 (by show _ < 41; have := hf.2.2.1; omega) (fun G hR => ?_)
          refine zz_aload_n (pc := 186) C dX3_fork_186 rfl ?_
          refine zz_get (pc := 187) C in_X3_fork_X3 (ci := 3) rfl 19 (by decide) (fl_X3_fork_68) rfl dX3_fork_187 hR.2.1 rfl ?_
          refine zz_iload_n (pc := 190) C dX3_fork_190 rfl ?_
          refine zz_iconst (pc := 191) C (v := -1) (by decide) dX3_fork_191 ?_
          refine zz_mst (pc := 192) C hR 19 (by decide) rfl dX3_fork_192 hf.1 (by show _ < 41; have := hf.2.2.1; omega) (fun G hR => ?_)
          refine zz_aload_n (pc := 193) C dX3_fork_193 rfl ?_
          refine zz_get (pc := 194) C in_X3_fork_X3 (ci := 3) rfl 20 (by decide) (fl_X3_fork_71) rfl dX3_fork_194 hR.2.1 rfl ?_
          refine zz_iload_n (pc := 197) C dX3_fork_197 rfl ?_
          refine zz_iconst (pc := 198) C (v := -1) (by decide) dX3_fork_198 ?_
          refine zz_mst (pc := 199) C hR 20 (by decide) rfl dX3_fork_199 hf.1 (by show _ < 41; have := hf.2.2.1; omega) (fun G hR => ?_)
          refine zz_iload_n (pc := 200) C dX3_fork_200 rfl ?_
          exact zz_ireturn (pc := 201) C dX3_fork_201 rfl (Nat.le_refl _) (Nat.le_refl _) ⟨zvok hT rfl, zMod.ok hT hR (zFork3_ag hag1) h231 (hring1.ag rfl rfl rfl)⟩
        · exact absurd z99 hc108
      | succ n ih =>
        intro i r1 G1 hi hR hag1 h231 hring1
        refine zz_iload_n (pc := 105) C dX3_fork_105 rfl ?_
        refine zz_bipush (pc := 106) C (v := 9) (by decide) dX3_fork_106 ?_
        refine zz_icmp_ge (pc := 108) C (tgt := 139) dX3_fork_108 (by decide) (fun hc108 => ?_) (fun hc108 => ?_)
        · exact absurd hc108 (z9lt (by omega))
        · refine zz_aload_n (pc := 111) C dX3_fork_111 rfl ?_
          refine zz_get (pc := 112) C in_X3_fork_X3 (ci := 3) rfl 9 (by decide) (fl_X3_fork_38) rfl dX3_fork_112 hR.2.1 rfl ?_
          refine zz_bipush (pc := 115) C (v := 9) (by decide) dX3_fork_115 ?_
          refine zz_iload_n (pc := 117) C dX3_fork_117 rfl ?_
          refine zz_imul (pc := 118) C dX3_fork_118 ?_
          refine zz_iload_n (pc := 119) C dX3_fork_119 rfl ?_
          refine zz_iadd (pc := 120) C dX3_fork_120 ?_
          refine zz_aload_n (pc := 121) C dX3_fork_121 rfl ?_
          refine zz_get (pc := 122) C in_X3_fork_X3 (ci := 3) rfl 9 (by decide) (fl_X3_fork_38) rfl dX3_fork_122 hR.2.1 rfl ?_
          refine zz_bipush (pc := 125) C (v := 9) (by decide) dX3_fork_125 ?_
          refine zz_iload_n (pc := 127) C dX3_fork_127 rfl ?_
          refine zz_imul (pc := 128) C dX3_fork_128 ?_
          refine zz_iload_n (pc := 129) C dX3_fork_129 rfl ?_
          refine zz_iadd (pc := 130) C dX3_fork_130 ?_
          refine zz_mld (pc := 131) C hR 9 (by decide) rfl dX3_fork_131 (z9ix hx.1) (by show _ < 369; have := hx.2.2; omega) ?_
          refine zz_mst (pc := 132) C hR 9 (by decide) rfl dX3_fork_132 (z9ix hf.1) (by show _ < 369; have := hf.2.2.1; omega) (fun G hR => ?_)
          refine zz_iinc (pc := 133) C dX3_fork_133 rfl ?_
          refine zz_goto (pc := 136) C (tgt := 105) dX3_fork_136 (by decide) ?_
          exact zV.less (L' := [some (.ref y), some (.int x), some (.int (zFreeV σ)), some (.int (nI (i + 1)))]) ⟨rfl, rfl, rfl, zvi (z1i i), trivial⟩ (ih (i + 1) _ _ (by omega) hR (by rw [zForkA_succ, ← zForkA_at (τ := (zFork1 σ x (pn (zFreeV σ)))) (n := i) (i := i) hpf (by omega) (by omega), ← hag1 9 (by decide)]; exact zAg_zu hag1) h231 (hring1.ag rfl rfl rfl))
    refine zz_callV (pc := 36) C (c_X3_fails l D hR (w := 0)) gX3_fork_X3_fails rfl 1 (by decide +kernel) ⟨Nat.le_of_ble_eq_true rfl, Nat.le_of_ble_eq_true rfl⟩ hR.2.1 (ci := 3) rfl rfl rfl dX3_fork_36 rfl (Nat.le_of_ble_eq_true rfl) rfl ⟨Nat.le_of_ble_eq_true rfl, Nat.le_of_ble_eq_true rfl⟩ ?_
    rintro v G9 ⟨rfl, hR⟩
    have hag : zAg (zu (zMix σ t9) 23 0 0) σ := zAg_off hag (by decide)
    have hring : zRing (zu (zMix σ t9) 23 0 0) [] := hring.ag rfl rfl rfl
    have h23 : (zu (zMix σ t9) 23 0 0) 23 0 = 0 := zu_self
    refine zz_if_eq (pc := 39) C (tgt := 44) dX3_fork_39 (by decide) (fun hc39 => ?_) (fun hc39 => ?_)
    · refine zz_aload_n (pc := 44) C dX3_fork_44 rfl ?_
      refine zz_get (pc := 45) C in_X3_fork_X3 (ci := 3) rfl 0 (by decide) (fl_X3_fork_7) rfl dX3_fork_45 hR.2.1 rfl ?_
      refine zz_iload_n (pc := 48) C dX3_fork_48 rfl ?_
      refine zz_iconst (pc := 49) C (v := 1) (by decide) dX3_fork_49 ?_
      refine zz_mstz (pc := 50) C hR 0 (by decide) rfl dX3_fork_50 hf.1 (by show _ < 41; have := hf.2.2.1; omega) (by first | rfl | exact zb_vp) (fun G hR => ?_)
      refine zz_aload_n (pc := 51) C dX3_fork_51 rfl ?_
      refine zz_get (pc := 52) C in_X3_fork_X3 (ci := 3) rfl 1 (by decide) (fl_X3_fork_13) rfl dX3_fork_52 hR.2.1 rfl ?_
      refine zz_iload_n (pc := 55) C dX3_fork_55 rfl ?_
      refine zz_iload_n (pc := 56) C dX3_fork_56 rfl ?_
      refine zz_mst (pc := 57) C hR 1 (by decide) rfl dX3_fork_57 hf.1 (by show _ < 41; have := hf.2.2.1; omega) (fun G hR => ?_)
      refine zz_aload_n (pc := 58) C dX3_fork_58 rfl ?_
      refine zz_get (pc := 59) C in_X3_fork_X3 (ci := 3) rfl 2 (by decide) (fl_X3_fork_17) rfl dX3_fork_59 hR.2.1 rfl ?_
      refine zz_iload_n (pc := 62) C dX3_fork_62 rfl ?_
      refine zz_aload_n (pc := 63) C dX3_fork_63 rfl ?_
      refine zz_get (pc := 64) C in_X3_fork_X3 (ci := 3) rfl 2 (by decide) (fl_X3_fork_17) rfl dX3_fork_64 hR.2.1 rfl ?_
      refine zz_iload_n (pc := 67) C dX3_fork_67 rfl ?_
      refine zz_mld (pc := 68) C hR 2 (by decide) rfl dX3_fork_68 hx.1 (by show _ < 41; have := hx.2.2; omega) ?_
      refine zz_mst (pc := 69) C hR 2 (by decide) rfl dX3_fork_69 hf.1 (by show _ < 41; have := hf.2.2.1; omega) (fun G hR => ?_)
      refine zz_aload_n (pc := 70) C dX3_fork_70 rfl ?_
      refine zz_get (pc := 71) C in_X3_fork_X3 (ci := 3) rfl 3 (by decide) (fl_X3_fork_20) rfl dX3_fork_71 hR.2.1 rfl ?_
      refine zz_iload_n (pc := 74) C dX3_fork_74 rfl ?_
      refine zz_aload_n (pc := 75) C dX3_fork_75 rfl ?_
      refine zz_get (pc := 76) C in_X3_fork_X3 (ci := 3) rfl 3 (by decide) (fl_X3_fork_20) rfl dX3_fork_76 hR.2.1 rfl ?_
      refine zz_iload_n (pc := 79) C dX3_fork_79 rfl ?_
      refine zz_mld (pc := 80) C hR 3 (by decide) rfl dX3_fork_80 hx.1 (by show _ < 41; have := hx.2.2; omega) ?_
      refine zz_mst (pc := 81) C hR 3 (by decide) rfl dX3_fork_81 hf.1 (by show _ < 41; have := hf.2.2.1; omega) (fun G hR => ?_)
      refine zz_aload_n (pc := 82) C dX3_fork_82 rfl ?_
      refine zz_get (pc := 83) C in_X3_fork_X3 (ci := 3) rfl 4 (by decide) (fl_X3_fork_23) rfl dX3_fork_83 hR.2.1 rfl ?_
      refine zz_iload_n (pc := 86) C dX3_fork_86 rfl ?_
      refine zz_iconst (pc := 87) C (v := 0) (by decide) dX3_fork_87 ?_
      refine zz_mstz (pc := 88) C hR 4 (by decide) rfl dX3_fork_88 hf.1 (by show _ < 41; have := hf.2.2.1; omega) (by first | rfl | exact zb_vp) (fun G hR => ?_)
      refine zz_aload_n (pc := 89) C dX3_fork_89 rfl ?_
      refine zz_get (pc := 90) C in_X3_fork_X3 (ci := 3) rfl 5 (by decide) (fl_X3_fork_26) rfl dX3_fork_90 hR.2.1 rfl ?_
      refine zz_iload_n (pc := 93) C dX3_fork_93 rfl ?_
      refine zz_iconst (pc := 94) C (v := 0) (by decide) dX3_fork_94 ?_
      refine zz_mstz (pc := 95) C hR 5 (by decide) rfl dX3_fork_95 hf.1 (by show _ < 41; have := hf.2.2.1; omega) (by first | rfl | exact zb_vp) (fun G hR => ?_)
      refine zz_aload_n (pc := 96) C dX3_fork_96 rfl ?_
      refine zz_get (pc := 97) C in_X3_fork_X3 (ci := 3) rfl 6 (by decide) (fl_X3_fork_29) rfl dX3_fork_97 hR.2.1 rfl ?_
      refine zz_iload_n (pc := 100) C dX3_fork_100 rfl ?_
      refine zz_iconst (pc := 101) C (v := 0) (by decide) dX3_fork_101 ?_
      refine zz_mstz (pc := 102) C hR 6 (by decide) rfl dX3_fork_102 hf.1 (by show _ < 41; have := hf.2.2.1; omega) (by first | rfl | exact zb_vp) (fun G hR => ?_)
      refine zz_iconst (pc := 103) C (v := 0) (by decide) dX3_fork_103 ?_
      refine zz_istore_n (pc := 104) C dX3_fork_104 (Nat.le_of_ble_eq_true rfl) ?_
      exact zV.less (L' := [some (.ref y), some (.int x), some (.int (zFreeV σ)), some (.int (nI (0)))]) ⟨rfl, rfl, rfl, zvi rfl, trivial⟩ (loop 9 0 _ _ rfl hR (by rw [zForkA_0]; exact zFork1_ag hag0) h23 (hring.ag rfl rfl rfl))
    · exact (z01 hc39).elim
  have k1 : ∀ w9 : Int32, zE2 (¬ zHere σ x) (¬ zRunN σ (pn x) ∨ zFreeV σ = -1) = w9 → 0 < w9 → zV p l e ({ frames := 1, cells := 0, slots := 0, locals := 24 } : Room) s m args below meth c D (zA G s.heap.size) 0 0 (zZ below D G (fun v G9 => v = some (.int (if zE2 (¬ zHere σ x) (¬ zRunN σ (pn x) ∨ zFreeV σ = -1) = 0 then zFreeV σ else 0)) ∧ zMod B y ma (if zE2 (¬ zHere σ x) (¬ zRunN σ (pn x) ∨ zFreeV σ = -1) = 0 then zFork σ x (pn (zFreeV σ)) else σ) [] (zE2 (¬ zHere σ x) (¬ zRunN σ (pn x) ∨ zFreeV σ = -1)) G9) args s ({ frames := 1, cells := 0, slots := 0, locals := 24 } : Room)) G 36 [some (.ref y), some (.int x), some (.int (zFreeV σ)), none] [.int w9, .ref y] := by
    intro w9 hT hw9
    refine zz_callV (pc := 36) C (c_X3_fails l D hR (w := w9)) gX3_fork_X3_fails rfl 1 (by decide +kernel) ⟨Nat.le_of_ble_eq_true rfl, Nat.le_of_ble_eq_true rfl⟩ hR.2.1 (ci := 3) rfl rfl rfl dX3_fork_36 rfl (Nat.le_of_ble_eq_true rfl) rfl ⟨Nat.le_of_ble_eq_true rfl, Nat.le_of_ble_eq_true rfl⟩ ?_
    rintro v G9 ⟨rfl, hR⟩
    have hag : zAg (zu (zMix σ t9) 23 0 w9) σ := zAg_off hag (by decide)
    have hring : zRing (zu (zMix σ t9) 23 0 w9) [] := hring.ag rfl rfl rfl
    have h23 : (zu (zMix σ t9) 23 0 w9) 23 0 = w9 := zu_self
    refine zz_if_eq (pc := 39) C (tgt := 44) dX3_fork_39 (by decide) (fun hc39 => ?_) (fun hc39 => ?_)
    · exact (zw0 hc39 hw9).elim
    · refine zz_iconst (pc := 42) C (v := 0) (by decide) dX3_fork_42 ?_
      exact zz_ireturn (pc := 43) C dX3_fork_43 (by first | rfl | decide) (Nat.le_refl _) (Nat.le_refl _) ⟨zvno hT hw9, zMod.no hT hw9 hR hag h23 hring⟩
  refine zz_aload_n (pc := 0) C dX3_fork_0 rfl ?_
  refine zz_callV (pc := 1) C (c_X3_free l D hR h00) gX3_fork_X3_free rfl 0 (by decide +kernel) ⟨Nat.le_of_ble_eq_true rfl, Nat.le_of_ble_eq_true rfl⟩ hR.2.1 (ci := 3) rfl rfl rfl dX3_fork_1 rfl (Nat.le_of_ble_eq_true rfl) rfl ⟨Nat.le_of_ble_eq_true rfl, Nat.le_of_ble_eq_true rfl⟩ ?_
  rintro v G9 ⟨rfl, rfl⟩
  refine zz_istore_n (pc := 4) C dX3_fork_4 (Nat.le_of_ble_eq_true rfl) ?_
  refine zz_aload_n (pc := 5) C dX3_fork_5 rfl ?_
  refine zz_aload_n (pc := 6) C dX3_fork_6 rfl ?_
  refine zz_iload_n (pc := 7) C dX3_fork_7 rfl ?_
  refine zz_callV (pc := 8) C (c_X3_is l D hR (x := x)) gX3_fork_X3_is rfl 1 (by decide +kernel) ⟨Nat.le_of_ble_eq_true rfl, Nat.le_of_ble_eq_true rfl⟩ hR.2.1 (ci := 3) rfl rfl rfl dX3_fork_8 rfl (Nat.le_of_ble_eq_true rfl) rfl ⟨Nat.le_of_ble_eq_true rfl, Nat.le_of_ble_eq_true rfl⟩ ?_
  rintro v G9 ⟨rfl, rfl⟩
  refine zz_if_ne (pc := 11) C (tgt := 18) dX3_fork_11 (by decide) (fun hc11 => ?_) (fun hc11 => ?_)
  · have hH : zHere σ x := zbp hc11
    have hx := hH.at
    refine zz_aload_n (pc := 18) C dX3_fork_18 rfl ?_
    refine zz_iload_n (pc := 19) C dX3_fork_19 rfl ?_
    refine zz_callV (pc := 20) C (c_xrun l D hR hx) gX3_fork_X3_isRunning rfl 1 (by decide +kernel) ⟨Nat.le_of_ble_eq_true rfl, Nat.le_of_ble_eq_true rfl⟩ hR.2.1 (ci := 3) rfl rfl rfl dX3_fork_20 rfl (Nat.le_of_ble_eq_true rfl) rfl ⟨Nat.le_of_ble_eq_true rfl, Nat.le_of_ble_eq_true rfl⟩ ?_
    rintro v G9 ⟨rfl, rfl⟩
    refine zz_if_eq (pc := 23) C (tgt := 31) dX3_fork_23 (by decide) (fun hc23 => ?_) (fun hc23 => ?_)
    · refine zz_iconst (pc := 31) C (v := 2) (by decide) dX3_fork_31 ?_
      refine zz_goto (pc := 32) C (tgt := 36) dX3_fork_32 (by decide) ?_
      first
        | exact k0 (zE2_0 (fun z => z hH) (fun z => z.elim (fun u => u (zbp hc23)) hc28))
        | exact k1 2 (zE2_2 (fun z => z hH) (Or.inl (zb_eq.mp hc23))) (by decide)
        | exact k1 2 (zE2_2 (fun z => z hH) (Or.inr (Classical.not_not.mp hc28))) (by decide)
        | exact k1 1 (zE2_1 (zbn hc11)) (by decide)
    · refine zz_iload_n (pc := 26) C dX3_fork_26 rfl ?_
      refine zz_iconst (pc := 27) C (v := -1) (by decide) dX3_fork_27 ?_
      refine zz_icmp_ne (pc := 28) C (tgt := 35) dX3_fork_28 (by decide) (fun hc28 => ?_) (fun hc28 => ?_)
      · refine zz_iconst (pc := 35) C (v := 0) (by decide) dX3_fork_35 ?_
        first
          | exact k0 (zE2_0 (fun z => z hH) (fun z => z.elim (fun u => u (zbp hc23)) hc28))
          | exact k1 2 (zE2_2 (fun z => z hH) (Or.inl (zb_eq.mp hc23))) (by decide)
          | exact k1 2 (zE2_2 (fun z => z hH) (Or.inr (Classical.not_not.mp hc28))) (by decide)
          | exact k1 1 (zE2_1 (zbn hc11)) (by decide)
      · refine zz_iconst (pc := 31) C (v := 2) (by decide) dX3_fork_31 ?_
        refine zz_goto (pc := 32) C (tgt := 36) dX3_fork_32 (by decide) ?_
        first
          | exact k0 (zE2_0 (fun z => z hH) (fun z => z.elim (fun u => u (zbp hc23)) hc28))
          | exact k1 2 (zE2_2 (fun z => z hH) (Or.inl (zb_eq.mp hc23))) (by decide)
          | exact k1 2 (zE2_2 (fun z => z hH) (Or.inr (Classical.not_not.mp hc28))) (by decide)
          | exact k1 1 (zE2_1 (zbn hc11)) (by decide)
  · refine zz_iconst (pc := 14) C (v := 1) (by decide) dX3_fork_14 ?_
    refine zz_goto (pc := 15) C (tgt := 36) dX3_fork_15 (by decide) ?_
    first
      | exact k0 (zE2_0 (fun z => z hH) (fun z => z.elim (fun u => u (zbp hc23)) hc28))
      | exact k1 2 (zE2_2 (fun z => z hH) (Or.inl (zb_eq.mp hc23))) (by decide)
      | exact k1 2 (zE2_2 (fun z => z hH) (Or.inr (Classical.not_not.mp hc28))) (by decide)
      | exact k1 1 (zE2_1 (zbn hc11)) (by decide)
def zXst (p : Nat) (σ : zS) (k : Nat) : zS := if zAct σ p k = 2 then zu (zu σ 9 (9 * p + k) 0) 11 p (if k = 4 ∨ k = 7 then zClr (σ 11 p) k else σ 11 p) else σ
def zExecN (σ : zS) (p : Nat) : Nat → zS
  | 0 => σ
  | n + 1 => zXst p (zExecN σ p n) n
def zCatN (σ : zS) (p n : Nat) : Nat := ((List.range n).filter (fun k => decide (zAct σ p k = 2))).length
theorem zCatN_yes {σ : zS} {p n : Nat} (h : zAct σ p n = 2) : zCatN σ p (n + 1) = zCatN σ p n + 1 := by
  unfold zCatN
  rw [List.range_succ, List.filter_append, List.filter_cons, if_pos (decide_eq_true h), List.filter_nil, List.length_append]
  rfl
theorem zCatN_no {σ : zS} {p n : Nat} (h : ¬ zAct σ p n = 2) : zCatN σ p (n + 1) = zCatN σ p n := by
  unfold zCatN
  rw [List.range_succ, List.filter_append, List.filter_cons, if_neg (by rw [decide_eq_true_eq]; exact h), List.filter_nil, List.append_nil]
theorem zExecN_at {σ : zS} {p k : Nat} : ∀ {n : Nat}, n ≤ k → zAct (zExecN σ p n) p k = zAct σ p k
  | 0, _ => rfl
  | n + 1, h => by
    have ih := zExecN_at (σ := σ) (p := p) (k := k) (n := n) (by omega)
    show zAct (zXst p (zExecN σ p n) n) p k = _
    unfold zXst
    split
    · show zu (zu (zExecN σ p n) 9 (9 * p + n) 0) 11 p _ 9 (9 * p + k) = _
      rw [zu_off (by decide), zu_at]
      unfold upd
      rw [if_neg (by omega)]
      exact ih
    · exact ih
theorem zXst_no {p k : Nat} {σ : zS} (h : ¬ zAct σ p k = 2) : zXst p σ k = σ := if_neg h
theorem zXst_y1 {p k : Nat} {σ : zS} (h : zAct σ p k = 2) (h2 : k = 4 ∨ k = 7) : zXst p σ k = zu (zu σ 9 (9 * p + k) 0) 11 p (σ 11 p &&& ((1 <<< (nI k &&& 31)) ^^^ (-1))) := by
  unfold zXst
  rw [if_pos h, if_pos h2]
  rfl
theorem zXst_y0 {p k : Nat} {σ : zS} (h : zAct σ p k = 2) (h2 : ¬ (k = 4 ∨ k = 7)) : zXst p σ k = zu (zu σ 9 (9 * p + k) 0) 11 p (σ 11 p &&& (-1)) := by
  unfold zXst
  rw [if_pos h, if_neg h2, zm1m]
theorem fl_X3_exec_38 : Cond.fieldLink RX3 38 "SignalpostModel" "action" "[I" ∈ wsX3_exec := by decide +kernel
theorem fl_X3_exec_44 : Cond.fieldLink RX3 44 "SignalpostModel" "pending" "[I" ∈ wsX3_exec := by decide +kernel
theorem in_X3_exec_X3 : ∀ w ∈ u_ws RX3 TX3 29, w ∈ wsX3_exec := by decide +kernel
set_option maxHeartbeats 4000000 in
set_option maxRecDepth 100000 in
theorem c_X3_exec (l : Launch) (D : va_G) {B G : zG} {y : Nat} {ma : Nat → Nat} {r : zS} {σ : zS} {x : Int32} (hR : zModR B y ma r G) (hag : zAg r σ) (hring : zRing r []) : zMet D l yX3_exec wsX3_exec ({ frames := 2, cells := 0, slots := 0, locals := 42 } : Room) [.ref y, .int x] G (fun v G9 => v = some (.int (if zE2 (¬ zHere σ x) (zNot σ (pn x)) = 0 then nI (zCatN σ (pn x) 9) else 0)) ∧ zMod B y ma (if zE2 (¬ zHere σ x) (zNot σ (pn x)) = 0 then zExecN σ (pn x) 9 else σ) [] (zE2 (¬ zHere σ x) (zNot σ (pn x))) G9) := by
  refine zMet_of (cc := cX3_exec) (maxL := 4) (ret := (some .int)) (by decide) rfl (Nat.le_of_ble_eq_true rfl) ?_
  intro p e s m args below meth c C hmn
  obtain ⟨t9, rfl⟩ : ∃ t9, r = zMix σ t9 := ⟨r, zMix_of hag⟩
  have k0 : zE2 (¬ zHere σ x) (zNot σ (pn x)) = 0 → zV p l e ({ frames := 2, cells := 0, slots := 0, locals := 42 } : Room) s m args below meth c D (zA G s.heap.size) 0 0 (zZ below D G (fun v G9 => v = some (.int (if zE2 (¬ zHere σ x) (zNot σ (pn x)) = 0 then nI (zCatN σ (pn x) 9) else 0)) ∧ zMod B y ma (if zE2 (¬ zHere σ x) (zNot σ (pn x)) = 0 then zExecN σ (pn x) 9 else σ) [] (zE2 (¬ zHere σ x) (zNot σ (pn x))) G9) args s ({ frames := 2, cells := 0, slots := 0, locals := 42 } : Room)) G 26 [some (.ref y), some (.int x), none, none] [.int 0, .ref y] := by
    intro hT
    have hH : zHere σ x := Classical.not_not.mp (zE2_z hT).1
    have hx := hH.at
    have loop : ∀ (n i : Nat) (r1 : zS) (G1 : zG), i + n = 9 → zModR B y ma r1 G1 → zAg r1 (zExecN σ (pn x) (i)) → r1 23 0 = 0 → zRing r1 [] → zV p l e ({ frames := 2, cells := 0, slots := 0, locals := 42 } : Room) s m args below meth c D (zA G s.heap.size) 0 0 (zZ below D G (fun v G9 => v = some (.int (if zE2 (¬ zHere σ x) (zNot σ (pn x)) = 0 then nI (zCatN σ (pn x) 9) else 0)) ∧ zMod B y ma (if zE2 (¬ zHere σ x) (zNot σ (pn x)) = 0 then zExecN σ (pn x) 9 else σ) [] (zE2 (¬ zHere σ x) (zNot σ (pn x))) G9) args s ({ frames := 2, cells := 0, slots := 0, locals := 42 } : Room)) G1 38 [some (.ref y), some (.int x), some (.int (nI (zCatN σ (pn x) i))), some (.int (nI (i)))] [] := by
      intro n
      induction n with
      | zero =>
        intro i r1 G1 hi hR hag1 h231 hring1
        have hi9 : i = 9 := by omega
        subst hi9
        refine zz_iload_n (pc := 38) C dX3_exec_38 rfl ?_
        refine zz_bipush (pc := 39) C (v := 9) (by decide) dX3_exec_39 ?_
        refine zz_icmp_ge (pc := 41) C (tgt := 109) dX3_exec_41 (by decide) (fun hc41 => ?_) (fun hc41 => ?_)
        · refine zz_iload_n (pc := 109) C dX3_exec_109 rfl ?_
          exact zz_ireturn (pc := 110) C dX3_exec_110 rfl (Nat.le_refl _) (Nat.le_refl _) ⟨zvok hT rfl, zMod.ok hT hR hag1 h231 hring1⟩
        · exact absurd z99 hc41
      | succ n ih =>
        intro i r1 G1 hi hR hag1 h231 hring1
        refine zz_iload_n (pc := 38) C dX3_exec_38 rfl ?_
        refine zz_bipush (pc := 39) C (v := 9) (by decide) dX3_exec_39 ?_
        refine zz_icmp_ge (pc := 41) C (tgt := 109) dX3_exec_41 (by decide) (fun hc41 => ?_) (fun hc41 => ?_)
        · exact absurd hc41 (z9lt (by omega))
        · refine zz_aload_n (pc := 44) C dX3_exec_44 rfl ?_
          refine zz_get (pc := 45) C in_X3_exec_X3 (ci := 3) rfl 9 (by decide) (fl_X3_exec_38) rfl dX3_exec_45 hR.2.1 rfl ?_
          refine zz_bipush (pc := 48) C (v := 9) (by decide) dX3_exec_48 ?_
          refine zz_iload_n (pc := 50) C dX3_exec_50 rfl ?_
          refine zz_imul (pc := 51) C dX3_exec_51 ?_
          refine zz_iload_n (pc := 52) C dX3_exec_52 rfl ?_
          refine zz_iadd (pc := 53) C dX3_exec_53 ?_
          refine zz_mld (pc := 54) C hR 9 (by decide) rfl dX3_exec_54 (z9ix hx.1) (by show _ < 369; have := hx.2.2; omega) ?_
          refine zz_iconst (pc := 55) C (v := 2) (by decide) dX3_exec_55 ?_
          refine zz_icmp_ne (pc := 56) C (tgt := 103) dX3_exec_56 (by decide) (fun hc56 => ?_) (fun hc56 => ?_)
          · refine zz_iinc (pc := 103) C dX3_exec_103 rfl ?_
            refine zz_goto (pc := 106) C (tgt := 38) dX3_exec_106 (by decide) ?_
            first
              | exact zV.less (L' := [some (.ref y), some (.int x), some (.int (nI (zCatN σ (pn x) (i + 1)))), some (.int (nI (i + 1)))]) ⟨rfl, rfl, zvi (congrArg nI (zCatN_no (fun z => hc56 ((congrFun (hag1 9 (by decide)) _).trans ((zExecN_at (Nat.le_refl _)).trans z)))).symm), zvi (z1i i), trivial⟩ (ih (i + 1) _ _ (by omega) hR (by show zAg _ (zXst (pn x) (zExecN σ (pn x) (i)) i); rw [zXst_no (fun z => hc56 ((congrFun (hag1 9 (by decide)) _).trans z))]; exact hag1) h231 (hring1.ag rfl rfl rfl))
              | exact zV.less (L' := [some (.ref y), some (.int x), some (.int (nI (zCatN σ (pn x) (i + 1)))), some (.int (nI (i + 1)))]) ⟨rfl, rfl, zvi ((z1i _).trans (congrArg nI (zCatN_yes ((zExecN_at (Nat.le_refl _)).symm.trans hE)).symm)), zvi (z1i i), trivial⟩ (ih (i + 1) _ _ (by omega) hR (by show zAg _ (zXst (pn x) (zExecN σ (pn x) (i)) i); rw [zXst_y1 hE (Or.inl ((nI_eq (by omega) (by decide)).mp (show nI i = nI 4 from hc80))), ← hag1 11 (by decide)]; exact zAg_zu (zAg_zu hag1)) h231 (hring1.ag rfl rfl rfl))
              | exact zV.less (L' := [some (.ref y), some (.int x), some (.int (nI (zCatN σ (pn x) (i + 1)))), some (.int (nI (i + 1)))]) ⟨rfl, rfl, zvi ((z1i _).trans (congrArg nI (zCatN_yes ((zExecN_at (Nat.le_refl _)).symm.trans hE)).symm)), zvi (z1i i), trivial⟩ (ih (i + 1) _ _ (by omega) hR (by show zAg _ (zXst (pn x) (zExecN σ (pn x) (i)) i); rw [zXst_y1 hE (Or.inr ((nI_eq (by omega) (by decide)).mp (show nI i = nI 7 from Classical.not_not.mp hc86))), ← hag1 11 (by decide)]; exact zAg_zu (zAg_zu hag1)) h231 (hring1.ag rfl rfl rfl))
              | exact zV.less (L' := [some (.ref y), some (.int x), some (.int (nI (zCatN σ (pn x) (i + 1)))), some (.int (nI (i + 1)))]) ⟨rfl, rfl, zvi ((z1i _).trans (congrArg nI (zCatN_yes ((zExecN_at (Nat.le_refl _)).symm.trans hE)).symm)), zvi (z1i i), trivial⟩ (ih (i + 1) _ _ (by omega) hR (by show zAg _ (zXst (pn x) (zExecN σ (pn x) (i)) i); rw [zXst_y0 hE (fun z => z.elim (fun u => hc80 (by rw [u]; rfl)) (fun u => hc86 (by rw [u]; rfl))), ← hag1 11 (by decide)]; exact zAg_zu (zAg_zu hag1)) h231 (hring1.ag rfl rfl rfl))
          · have hE : zAct (zExecN σ (pn x) (i)) (pn x) i = 2 := by rw [← Classical.not_not.mp hc56]; exact (congrFun (hag1 9 (by decide)) _).symm
            refine zz_aload_n (pc := 59) C dX3_exec_59 rfl ?_
            refine zz_get (pc := 60) C in_X3_exec_X3 (ci := 3) rfl 9 (by decide) (fl_X3_exec_38) rfl dX3_exec_60 hR.2.1 rfl ?_
            refine zz_bipush (pc := 63) C (v := 9) (by decide) dX3_exec_63 ?_
            refine zz_iload_n (pc := 65) C dX3_exec_65 rfl ?_
            refine zz_imul (pc := 66) C dX3_exec_66 ?_
            refine zz_iload_n (pc := 67) C dX3_exec_67 rfl ?_
            refine zz_iadd (pc := 68) C dX3_exec_68 ?_
            refine zz_iconst (pc := 69) C (v := 0) (by decide) dX3_exec_69 ?_
            refine zz_mst (pc := 70) C hR 9 (by decide) rfl dX3_exec_70 (z9ix hx.1) (by show _ < 369; have := hx.2.2; omega) (fun G hR => ?_)
            refine zz_aload_n (pc := 71) C dX3_exec_71 rfl ?_
            refine zz_get (pc := 72) C in_X3_exec_X3 (ci := 3) rfl 11 (by decide) (fl_X3_exec_44) rfl dX3_exec_72 hR.2.1 rfl ?_
            refine zz_iload_n (pc := 75) C dX3_exec_75 rfl ?_
            refine zz_dup2 (pc := 76) C dX3_exec_76 rfl rfl ?_
            refine zz_mld (pc := 77) C hR 11 (by decide) rfl dX3_exec_77 hx.1 (by show _ < 41; have := hx.2.2; omega) ?_
            refine zz_iload_n (pc := 78) C dX3_exec_78 rfl ?_
            refine zz_iconst (pc := 79) C (v := 4) (by decide) dX3_exec_79 ?_
            refine zz_icmp_eq (pc := 80) C (tgt := 89) dX3_exec_80 (by decide) (fun hc80 => ?_) (fun hc80 => ?_)
            · refine zz_iconst (pc := 89) C (v := 1) (by decide) dX3_exec_89 ?_
              refine zz_iload_n (pc := 90) C dX3_exec_90 rfl ?_
              refine zz_ishl (pc := 91) C dX3_exec_91 ?_
              refine zz_iconst (pc := 92) C (v := -1) (by decide) dX3_exec_92 ?_
              refine zz_ixor (pc := 93) C dX3_exec_93 ?_
              refine zz_goto (pc := 94) C (tgt := 98) dX3_exec_94 (by decide) ?_
              refine zz_iand (pc := 98) C dX3_exec_98 ?_
              refine zz_mst (pc := 99) C hR 11 (by decide) rfl dX3_exec_99 hx.1 (by show _ < 41; have := hx.2.2; omega) (fun G hR => ?_)
              refine zz_iinc (pc := 100) C dX3_exec_100 rfl ?_
              refine zz_iinc (pc := 103) C dX3_exec_103 rfl ?_
              refine zz_goto (pc := 106) C (tgt := 38) dX3_exec_106 (by decide) ?_
              first
                | exact zV.less (L' := [some (.ref y), some (.int x), some (.int (nI (zCatN σ (pn x) (i + 1)))), some (.int (nI (i + 1)))]) ⟨rfl, rfl, zvi (congrArg nI (zCatN_no (fun z => hc56 ((congrFun (hag1 9 (by decide)) _).trans ((zExecN_at (Nat.le_refl _)).trans z)))).symm), zvi (z1i i), trivial⟩ (ih (i + 1) _ _ (by omega) hR (by show zAg _ (zXst (pn x) (zExecN σ (pn x) (i)) i); rw [zXst_no (fun z => hc56 ((congrFun (hag1 9 (by decide)) _).trans z))]; exact hag1) h231 (hring1.ag rfl rfl rfl))
                | exact zV.less (L' := [some (.ref y), some (.int x), some (.int (nI (zCatN σ (pn x) (i + 1)))), some (.int (nI (i + 1)))]) ⟨rfl, rfl, zvi ((z1i _).trans (congrArg nI (zCatN_yes ((zExecN_at (Nat.le_refl _)).symm.trans hE)).symm)), zvi (z1i i), trivial⟩ (ih (i + 1) _ _ (by omega) hR (by show zAg _ (zXst (pn x) (zExecN σ (pn x) (i)) i); rw [zXst_y1 hE (Or.inl ((nI_eq (by omega) (by decide)).mp (show nI i = nI 4 from hc80))), ← hag1 11 (by decide)]; exact zAg_zu (zAg_zu hag1)) h231 (hring1.ag rfl rfl rfl))
                | exact zV.less (L' := [some (.ref y), some (.int x), some (.int (nI (zCatN σ (pn x) (i + 1)))), some (.int (nI (i + 1)))]) ⟨rfl, rfl, zvi ((z1i _).trans (congrArg nI (zCatN_yes ((zExecN_at (Nat.le_refl _)).symm.trans hE)).symm)), zvi (z1i i), trivial⟩ (ih (i + 1) _ _ (by omega) hR (by show zAg _ (zXst (pn x) (zExecN σ (pn x) (i)) i); rw [zXst_y1 hE (Or.inr ((nI_eq (by omega) (by decide)).mp (show nI i = nI 7 from Classical.not_not.mp hc86))), ← hag1 11 (by decide)]; exact zAg_zu (zAg_zu hag1)) h231 (hring1.ag rfl rfl rfl))
                | exact zV.less (L' := [some (.ref y), some (.int x), some (.int (nI (zCatN σ (pn x) (i + 1)))), some (.int (nI (i + 1)))]) ⟨rfl, rfl, zvi ((z1i _).trans (congrArg nI (zCatN_yes ((zExecN_at (Nat.le_refl _)).symm.trans hE)).symm)), zvi (z1i i), trivial⟩ (ih (i + 1) _ _ (by omega) hR (by show zAg _ (zXst (pn x) (zExecN σ (pn x) (i)) i); rw [zXst_y0 hE (fun z => z.elim (fun u => hc80 (by rw [u]; rfl)) (fun u => hc86 (by rw [u]; rfl))), ← hag1 11 (by decide)]; exact zAg_zu (zAg_zu hag1)) h231 (hring1.ag rfl rfl rfl))
            · refine zz_iload_n (pc := 83) C dX3_exec_83 rfl ?_
              refine zz_bipush (pc := 84) C (v := 7) (by decide) dX3_exec_84 ?_
              refine zz_icmp_ne (pc := 86) C (tgt := 97) dX3_exec_86 (by decide) (fun hc86 => ?_) (fun hc86 => ?_)
              · refine zz_iconst (pc := 97) C (v := -1) (by decide) dX3_exec_97 ?_
                refine zz_iand (pc := 98) C dX3_exec_98 ?_
                refine zz_mst (pc := 99) C hR 11 (by decide) rfl dX3_exec_99 hx.1 (by show _ < 41; have := hx.2.2; omega) (fun G hR => ?_)
                refine zz_iinc (pc := 100) C dX3_exec_100 rfl ?_
                refine zz_iinc (pc := 103) C dX3_exec_103 rfl ?_
                refine zz_goto (pc := 106) C (tgt := 38) dX3_exec_106 (by decide) ?_
                first
                  | exact zV.less (L' := [some (.ref y), some (.int x), some (.int (nI (zCatN σ (pn x) (i + 1)))), some (.int (nI (i + 1)))]) ⟨rfl, rfl, zvi (congrArg nI (zCatN_no (fun z => hc56 ((congrFun (hag1 9 (by decide)) _).trans ((zExecN_at (Nat.le_refl _)).trans z)))).symm), zvi (z1i i), trivial⟩ (ih (i + 1) _ _ (by omega) hR (by show zAg _ (zXst (pn x) (zExecN σ (pn x) (i)) i); rw [zXst_no (fun z => hc56 ((congrFun (hag1 9 (by decide)) _).trans z))]; exact hag1) h231 (hring1.ag rfl rfl rfl))
                  | exact zV.less (L' := [some (.ref y), some (.int x), some (.int (nI (zCatN σ (pn x) (i + 1)))), some (.int (nI (i + 1)))]) ⟨rfl, rfl, zvi ((z1i _).trans (congrArg nI (zCatN_yes ((zExecN_at (Nat.le_refl _)).symm.trans hE)).symm)), zvi (z1i i), trivial⟩ (ih (i + 1) _ _ (by omega) hR (by show zAg _ (zXst (pn x) (zExecN σ (pn x) (i)) i); rw [zXst_y1 hE (Or.inl ((nI_eq (by omega) (by decide)).mp (show nI i = nI 4 from hc80))), ← hag1 11 (by decide)]; exact zAg_zu (zAg_zu hag1)) h231 (hring1.ag rfl rfl rfl))
                  | exact zV.less (L' := [some (.ref y), some (.int x), some (.int (nI (zCatN σ (pn x) (i + 1)))), some (.int (nI (i + 1)))]) ⟨rfl, rfl, zvi ((z1i _).trans (congrArg nI (zCatN_yes ((zExecN_at (Nat.le_refl _)).symm.trans hE)).symm)), zvi (z1i i), trivial⟩ (ih (i + 1) _ _ (by omega) hR (by show zAg _ (zXst (pn x) (zExecN σ (pn x) (i)) i); rw [zXst_y1 hE (Or.inr ((nI_eq (by omega) (by decide)).mp (show nI i = nI 7 from Classical.not_not.mp hc86))), ← hag1 11 (by decide)]; exact zAg_zu (zAg_zu hag1)) h231 (hring1.ag rfl rfl rfl))
                  | exact zV.less (L' := [some (.ref y), some (.int x), some (.int (nI (zCatN σ (pn x) (i + 1)))), some (.int (nI (i + 1)))]) ⟨rfl, rfl, zvi ((z1i _).trans (congrArg nI (zCatN_yes ((zExecN_at (Nat.le_refl _)).symm.trans hE)).symm)), zvi (z1i i), trivial⟩ (ih (i + 1) _ _ (by omega) hR (by show zAg _ (zXst (pn x) (zExecN σ (pn x) (i)) i); rw [zXst_y0 hE (fun z => z.elim (fun u => hc80 (by rw [u]; rfl)) (fun u => hc86 (by rw [u]; rfl))), ← hag1 11 (by decide)]; exact zAg_zu (zAg_zu hag1)) h231 (hring1.ag rfl rfl rfl))
              · refine zz_iconst (pc := 89) C (v := 1) (by decide) dX3_exec_89 ?_
                refine zz_iload_n (pc := 90) C dX3_exec_90 rfl ?_
                refine zz_ishl (pc := 91) C dX3_exec_91 ?_
                refine zz_iconst (pc := 92) C (v := -1) (by decide) dX3_exec_92 ?_
                refine zz_ixor (pc := 93) C dX3_exec_93 ?_
                refine zz_goto (pc := 94) C (tgt := 98) dX3_exec_94 (by decide) ?_
                refine zz_iand (pc := 98) C dX3_exec_98 ?_
                refine zz_mst (pc := 99) C hR 11 (by decide) rfl dX3_exec_99 hx.1 (by show _ < 41; have := hx.2.2; omega) (fun G hR => ?_)
                refine zz_iinc (pc := 100) C dX3_exec_100 rfl ?_
                refine zz_iinc (pc := 103) C dX3_exec_103 rfl ?_
                refine zz_goto (pc := 106) C (tgt := 38) dX3_exec_106 (by decide) ?_
                first
                  | exact zV.less (L' := [some (.ref y), some (.int x), some (.int (nI (zCatN σ (pn x) (i + 1)))), some (.int (nI (i + 1)))]) ⟨rfl, rfl, zvi (congrArg nI (zCatN_no (fun z => hc56 ((congrFun (hag1 9 (by decide)) _).trans ((zExecN_at (Nat.le_refl _)).trans z)))).symm), zvi (z1i i), trivial⟩ (ih (i + 1) _ _ (by omega) hR (by show zAg _ (zXst (pn x) (zExecN σ (pn x) (i)) i); rw [zXst_no (fun z => hc56 ((congrFun (hag1 9 (by decide)) _).trans z))]; exact hag1) h231 (hring1.ag rfl rfl rfl))
                  | exact zV.less (L' := [some (.ref y), some (.int x), some (.int (nI (zCatN σ (pn x) (i + 1)))), some (.int (nI (i + 1)))]) ⟨rfl, rfl, zvi ((z1i _).trans (congrArg nI (zCatN_yes ((zExecN_at (Nat.le_refl _)).symm.trans hE)).symm)), zvi (z1i i), trivial⟩ (ih (i + 1) _ _ (by omega) hR (by show zAg _ (zXst (pn x) (zExecN σ (pn x) (i)) i); rw [zXst_y1 hE (Or.inl ((nI_eq (by omega) (by decide)).mp (show nI i = nI 4 from hc80))), ← hag1 11 (by decide)]; exact zAg_zu (zAg_zu hag1)) h231 (hring1.ag rfl rfl rfl))
                  | exact zV.less (L' := [some (.ref y), some (.int x), some (.int (nI (zCatN σ (pn x) (i + 1)))), some (.int (nI (i + 1)))]) ⟨rfl, rfl, zvi ((z1i _).trans (congrArg nI (zCatN_yes ((zExecN_at (Nat.le_refl _)).symm.trans hE)).symm)), zvi (z1i i), trivial⟩ (ih (i + 1) _ _ (by omega) hR (by show zAg _ (zXst (pn x) (zExecN σ (pn x) (i)) i); rw [zXst_y1 hE (Or.inr ((nI_eq (by omega) (by decide)).mp (show nI i = nI 7 from Classical.not_not.mp hc86))), ← hag1 11 (by decide)]; exact zAg_zu (zAg_zu hag1)) h231 (hring1.ag rfl rfl rfl))
                  | exact zV.less (L' := [some (.ref y), some (.int x), some (.int (nI (zCatN σ (pn x) (i + 1)))), some (.int (nI (i + 1)))]) ⟨rfl, rfl, zvi ((z1i _).trans (congrArg nI (zCatN_yes ((zExecN_at (Nat.le_refl _)).symm.trans hE)).symm)), zvi (z1i i), trivial⟩ (ih (i + 1) _ _ (by omega) hR (by show zAg _ (zXst (pn x) (zExecN σ (pn x) (i)) i); rw [zXst_y0 hE (fun z => z.elim (fun u => hc80 (by rw [u]; rfl)) (fun u => hc86 (by rw [u]; rfl))), ← hag1 11 (by decide)]; exact zAg_zu (zAg_zu hag1)) h231 (hring1.ag rfl rfl rfl))
    refine zz_callV (pc := 26) C (c_X3_fails l D hR (w := 0)) gX3_exec_X3_fails rfl 1 (by decide +kernel) ⟨Nat.le_of_ble_eq_true rfl, Nat.le_of_ble_eq_true rfl⟩ hR.2.1 (ci := 3) rfl rfl rfl dX3_exec_26 rfl (Nat.le_of_ble_eq_true rfl) rfl ⟨Nat.le_of_ble_eq_true rfl, Nat.le_of_ble_eq_true rfl⟩ ?_
    rintro v G9 ⟨rfl, hR⟩
    have hag : zAg (zu (zMix σ t9) 23 0 0) σ := zAg_off hag (by decide)
    have hring : zRing (zu (zMix σ t9) 23 0 0) [] := hring.ag rfl rfl rfl
    have h23 : (zu (zMix σ t9) 23 0 0) 23 0 = 0 := zu_self
    refine zz_if_eq (pc := 29) C (tgt := 34) dX3_exec_29 (by decide) (fun hc29 => ?_) (fun hc29 => ?_)
    · refine zz_iconst (pc := 34) C (v := 0) (by decide) dX3_exec_34 ?_
      refine zz_istore_n (pc := 35) C dX3_exec_35 (Nat.le_of_ble_eq_true rfl) ?_
      refine zz_iconst (pc := 36) C (v := 0) (by decide) dX3_exec_36 ?_
      refine zz_istore_n (pc := 37) C dX3_exec_37 (Nat.le_of_ble_eq_true rfl) ?_
      exact zV.less (L' := [some (.ref y), some (.int x), some (.int (nI (zCatN σ (pn x) 0))), some (.int (nI (0)))]) ⟨rfl, rfl, zvi rfl, zvi rfl, trivial⟩ (loop 9 0 _ _ rfl hR hag h23 hring)
    · exact (z01 hc29).elim
  have k1 : ∀ w9 : Int32, zE2 (¬ zHere σ x) (zNot σ (pn x)) = w9 → 0 < w9 → zV p l e ({ frames := 2, cells := 0, slots := 0, locals := 42 } : Room) s m args below meth c D (zA G s.heap.size) 0 0 (zZ below D G (fun v G9 => v = some (.int (if zE2 (¬ zHere σ x) (zNot σ (pn x)) = 0 then nI (zCatN σ (pn x) 9) else 0)) ∧ zMod B y ma (if zE2 (¬ zHere σ x) (zNot σ (pn x)) = 0 then zExecN σ (pn x) 9 else σ) [] (zE2 (¬ zHere σ x) (zNot σ (pn x))) G9) args s ({ frames := 2, cells := 0, slots := 0, locals := 42 } : Room)) G 26 [some (.ref y), some (.int x), none, none] [.int w9, .ref y] := by
    intro w9 hT hw9
    refine zz_callV (pc := 26) C (c_X3_fails l D hR (w := w9)) gX3_exec_X3_fails rfl 1 (by decide +kernel) ⟨Nat.le_of_ble_eq_true rfl, Nat.le_of_ble_eq_true rfl⟩ hR.2.1 (ci := 3) rfl rfl rfl dX3_exec_26 rfl (Nat.le_of_ble_eq_true rfl) rfl ⟨Nat.le_of_ble_eq_true rfl, Nat.le_of_ble_eq_true rfl⟩ ?_
    rintro v G9 ⟨rfl, hR⟩
    have hag : zAg (zu (zMix σ t9) 23 0 w9) σ := zAg_off hag (by decide)
    have hring : zRing (zu (zMix σ t9) 23 0 w9) [] := hring.ag rfl rfl rfl
    have h23 : (zu (zMix σ t9) 23 0 w9) 23 0 = w9 := zu_self
    refine zz_if_eq (pc := 29) C (tgt := 34) dX3_exec_29 (by decide) (fun hc29 => ?_) (fun hc29 => ?_)
    · exact (zw0 hc29 hw9).elim
    · refine zz_iconst (pc := 32) C (v := 0) (by decide) dX3_exec_32 ?_
      exact zz_ireturn (pc := 33) C dX3_exec_33 (by first | rfl | decide) (Nat.le_refl _) (Nat.le_refl _) ⟨zvno hT hw9, zMod.no hT hw9 hR hag h23 hring⟩
  refine zz_aload_n (pc := 0) C dX3_exec_0 rfl ?_
  refine zz_aload_n (pc := 1) C dX3_exec_1 rfl ?_
  refine zz_iload_n (pc := 2) C dX3_exec_2 rfl ?_
  refine zz_callV (pc := 3) C (c_X3_is l D hR (x := x)) gX3_exec_X3_is rfl 1 (by decide +kernel) ⟨Nat.le_of_ble_eq_true rfl, Nat.le_of_ble_eq_true rfl⟩ hR.2.1 (ci := 3) rfl rfl rfl dX3_exec_3 rfl (Nat.le_of_ble_eq_true rfl) rfl ⟨Nat.le_of_ble_eq_true rfl, Nat.le_of_ble_eq_true rfl⟩ ?_
  rintro v G9 ⟨rfl, rfl⟩
  refine zz_if_ne (pc := 6) C (tgt := 13) dX3_exec_6 (by decide) (fun hc6 => ?_) (fun hc6 => ?_)
  · have hH : zHere σ x := zbp hc6
    have hx := hH.at
    refine zz_aload_n (pc := 13) C dX3_exec_13 rfl ?_
    refine zz_iload_n (pc := 14) C dX3_exec_14 rfl ?_
    refine zz_callV (pc := 15) C (c_xcannot l D hR hx) gX3_exec_X3_cannot rfl 1 (by decide +kernel) ⟨Nat.le_of_ble_eq_true rfl, Nat.le_of_ble_eq_true rfl⟩ hR.2.1 (ci := 3) rfl rfl rfl dX3_exec_15 rfl (Nat.le_of_ble_eq_true rfl) rfl ⟨Nat.le_of_ble_eq_true rfl, Nat.le_of_ble_eq_true rfl⟩ ?_
    rintro v G9 ⟨rfl, rfl⟩
    refine zz_if_eq (pc := 18) C (tgt := 25) dX3_exec_18 (by decide) (fun hc18 => ?_) (fun hc18 => ?_)
    · refine zz_iconst (pc := 25) C (v := 0) (by decide) dX3_exec_25 ?_
      first
        | exact k0 (zE2_0 (fun z => z hH) (zb_eq.mp hc18))
        | exact k1 2 (zE2_2 (fun z => z hH) (zbp hc18)) (by decide)
        | exact k1 1 (zE2_1 (zbn hc6)) (by decide)
    · refine zz_iconst (pc := 21) C (v := 2) (by decide) dX3_exec_21 ?_
      refine zz_goto (pc := 22) C (tgt := 26) dX3_exec_22 (by decide) ?_
      first
        | exact k0 (zE2_0 (fun z => z hH) (zb_eq.mp hc18))
        | exact k1 2 (zE2_2 (fun z => z hH) (zbp hc18)) (by decide)
        | exact k1 1 (zE2_1 (zbn hc6)) (by decide)
  · refine zz_iconst (pc := 9) C (v := 1) (by decide) dX3_exec_9 ?_
    refine zz_goto (pc := 10) C (tgt := 26) dX3_exec_10 (by decide) ?_
    first
      | exact k0 (zE2_0 (fun z => z hH) (zb_eq.mp hc18))
      | exact k1 2 (zE2_2 (fun z => z hH) (zbp hc18)) (by decide)
      | exact k1 1 (zE2_1 (zbn hc6)) (by decide)
abbrev zOkA (s a : Int32) : Prop := ¬ s < 0 ∧ s < 9 ∧ s ≠ 2 ∧ s ≠ 5 ∧ ¬ a < 0 ∧ ¬ (2 : Int32) < a
def zSetA (σ : zS) (p : Nat) (s a : Int32) : zS := zu (zu σ 9 (9 * p + pn s) a) 11 p (if a = 1 ∨ (a = 0 ∧ (s = 4 ∨ s = 7)) then zClr (σ 11 p) (pn s) else σ 11 p)
theorem zSetA_y {σ : zS} {p : Nat} {s a : Int32} (hs : s = nI (pn s)) (h : a = 1 ∨ (a = 0 ∧ (s = 4 ∨ s = 7))) : zSetA σ p s a = zu (zu σ 9 (9 * p + pn s) a) 11 p (σ 11 p &&& ((1 <<< (s &&& 31)) ^^^ (-1))) := by
  unfold zSetA zClr zSh
  rw [if_pos h, ← hs]
theorem zSetA_n {σ : zS} {p : Nat} {s a : Int32} (h : ¬ (a = 1 ∨ (a = 0 ∧ (s = 4 ∨ s = 7)))) : zSetA σ p s a = zu (zu σ 9 (9 * p + pn s) a) 11 p (σ 11 p &&& (-1)) := by
  unfold zSetA
  rw [if_neg h, zm1m]
theorem z9x {x s : Int32} {a : Nat} (hx : x = nI a) (hs : s = nI (pn s)) : 9 * x + s = nI (9 * a + pn s) := by
  rw [← z9ix hx, ← hs]
theorem fl_X3_setAction_38 : Cond.fieldLink RX3 38 "SignalpostModel" "action" "[I" ∈ wsX3_setAction := by decide +kernel
theorem fl_X3_setAction_44 : Cond.fieldLink RX3 44 "SignalpostModel" "pending" "[I" ∈ wsX3_setAction := by decide +kernel
theorem in_X3_setAction_X3 : ∀ w ∈ u_ws RX3 TX3 29, w ∈ wsX3_setAction := by decide +kernel
set_option maxHeartbeats 4000000 in
set_option maxRecDepth 100000 in
theorem c_X3_setAction (l : Launch) (D : va_G) {B G : zG} {y : Nat} {ma : Nat → Nat} {r : zS} {σ : zS} {x s9 a9 : Int32} (hR : zModR B y ma r G) (hag : zAg r σ) (hring : zRing r []) : zMet D l yX3_setAction wsX3_setAction ({ frames := 2, cells := 0, slots := 0, locals := 42 } : Room) [.ref y, .int x, .int s9, .int a9] G (fun v G9 => v = some (.int (if zE3 (¬ zHere σ x) (¬ zOkA s9 a9) (zNot σ (pn x)) = 0 then σ 9 (9 * pn x + pn s9) else 0)) ∧ zMod B y ma (if zE3 (¬ zHere σ x) (¬ zOkA s9 a9) (zNot σ (pn x)) = 0 then zSetA σ (pn x) s9 a9 else σ) [] (zE3 (¬ zHere σ x) (¬ zOkA s9 a9) (zNot σ (pn x))) G9) := by
  refine zMet_of (cc := cX3_setAction) (maxL := 7) (ret := (some .int)) (by decide) rfl (Nat.le_of_ble_eq_true rfl) ?_
  intro p e s m args below meth c C hmn
  obtain ⟨t9, rfl⟩ : ∃ t9, r = zMix σ t9 := ⟨r, zMix_of hag⟩
  have k0 : zE3 (¬ zHere σ x) (¬ zOkA s9 a9) (zNot σ (pn x)) = 0 → zV p l e ({ frames := 2, cells := 0, slots := 0, locals := 42 } : Room) s m args below meth c D (zA G s.heap.size) 0 0 (zZ below D G (fun v G9 => v = some (.int (if zE3 (¬ zHere σ x) (¬ zOkA s9 a9) (zNot σ (pn x)) = 0 then σ 9 (9 * pn x + pn s9) else 0)) ∧ zMod B y ma (if zE3 (¬ zHere σ x) (¬ zOkA s9 a9) (zNot σ (pn x)) = 0 then zSetA σ (pn x) s9 a9 else σ) [] (zE3 (¬ zHere σ x) (¬ zOkA s9 a9) (zNot σ (pn x))) G9) args s ({ frames := 2, cells := 0, slots := 0, locals := 42 } : Room)) G 71 [some (.ref y), some (.int x), some (.int s9), some (.int a9), none, none, none] [.int 0, .ref y] := by
    intro hT
    have hH : zHere σ x := Classical.not_not.mp (zE3_z hT).1
    have hx := hH.at
    have hok : zOkA s9 a9 := Classical.not_not.mp (zE3_z hT).2.1
    have hs := zs9 hok.1 hok.2.1
    have kD1 : (a9 = 1 ∨ (a9 = 0 ∧ (s9 = 4 ∨ s9 = 7))) → (∀ (r1 : zS) (G1 : zG), zModR B y ma r1 G1 → zAg r1 (zu σ 9 (9 * pn x + pn s9) a9) → r1 23 0 = 0 → zRing r1 [] →  zV p l e ({ frames := 2, cells := 0, slots := 0, locals := 42 } : Room) s m args below meth c D (zA G s.heap.size) 0 0 (zZ below D G (fun v G9 => v = some (.int (if zE3 (¬ zHere σ x) (¬ zOkA s9 a9) (zNot σ (pn x)) = 0 then σ 9 (9 * pn x + pn s9) else 0)) ∧ zMod B y ma (if zE3 (¬ zHere σ x) (¬ zOkA s9 a9) (zNot σ (pn x)) = 0 then zSetA σ (pn x) s9 a9 else σ) [] (zE3 (¬ zHere σ x) (¬ zOkA s9 a9) (zNot σ (pn x))) G9) args s ({ frames := 2, cells := 0, slots := 0, locals := 42 } : Room)) G1 131 [some (.ref y), some (.int x), some (.int s9), some (.int a9), none, some (.int (σ 9 (9 * pn x + pn s9))), some (.int 1)] []) := by
      intro hD r1 G1 hR hag1 h231 hring1
      refine zz_aload_n (pc := 131) C dX3_setAction_131 rfl ?_
      refine zz_get (pc := 132) C in_X3_setAction_X3 (ci := 3) rfl 11 (by decide) (fl_X3_setAction_44) rfl dX3_setAction_132 hR.2.1 rfl ?_
      refine zz_iload_n (pc := 135) C dX3_setAction_135 rfl ?_
      refine zz_dup2 (pc := 136) C dX3_setAction_136 rfl rfl ?_
      refine zz_mld (pc := 137) C hR 11 (by decide) rfl dX3_setAction_137 hx.1 (by show _ < 41; have := hx.2.2; omega) ?_
      refine zz_iload (pc := 138) C dX3_setAction_138 rfl ?_
      refine zz_if_eq (pc := 140) C (tgt := 151) dX3_setAction_140 (by decide) (fun hc140 => ?_) (fun hc140 => ?_)
      · exact absurd hc140 (by decide)
      · refine zz_iconst (pc := 143) C (v := 1) (by decide) dX3_setAction_143 ?_
        refine zz_iload_n (pc := 144) C dX3_setAction_144 rfl ?_
        refine zz_ishl (pc := 145) C dX3_setAction_145 ?_
        refine zz_iconst (pc := 146) C (v := -1) (by decide) dX3_setAction_146 ?_
        refine zz_ixor (pc := 147) C dX3_setAction_147 ?_
        refine zz_goto (pc := 148) C (tgt := 152) dX3_setAction_148 (by decide) ?_
        refine zz_iand (pc := 152) C dX3_setAction_152 ?_
        refine zz_mst (pc := 153) C hR 11 (by decide) rfl dX3_setAction_153 hx.1 (by show _ < 41; have := hx.2.2; omega) (fun G hR => ?_)
        refine zz_iload (pc := 154) C dX3_setAction_154 rfl ?_
        exact zz_ireturn (pc := 156) C dX3_setAction_156 rfl (Nat.le_refl _) (Nat.le_refl _) ⟨zvok hT (rfl), zMod.ok hT hR (by rw [zSetA_y hs.1 hD, ← zu_off (σ := σ) (f := 9) (p := 9 * pn x + pn s9) (v := a9) (show 11 ≠ 9 by decide), ← hag1 11 (by decide)]; exact zAg_zu hag1) h231 (hring1.ag rfl rfl rfl)⟩
    have kD0 : ¬ (a9 = 1 ∨ (a9 = 0 ∧ (s9 = 4 ∨ s9 = 7))) → (∀ (r1 : zS) (G1 : zG), zModR B y ma r1 G1 → zAg r1 (zu σ 9 (9 * pn x + pn s9) a9) → r1 23 0 = 0 → zRing r1 [] →  zV p l e ({ frames := 2, cells := 0, slots := 0, locals := 42 } : Room) s m args below meth c D (zA G s.heap.size) 0 0 (zZ below D G (fun v G9 => v = some (.int (if zE3 (¬ zHere σ x) (¬ zOkA s9 a9) (zNot σ (pn x)) = 0 then σ 9 (9 * pn x + pn s9) else 0)) ∧ zMod B y ma (if zE3 (¬ zHere σ x) (¬ zOkA s9 a9) (zNot σ (pn x)) = 0 then zSetA σ (pn x) s9 a9 else σ) [] (zE3 (¬ zHere σ x) (¬ zOkA s9 a9) (zNot σ (pn x))) G9) args s ({ frames := 2, cells := 0, slots := 0, locals := 42 } : Room)) G1 131 [some (.ref y), some (.int x), some (.int s9), some (.int a9), none, some (.int (σ 9 (9 * pn x + pn s9))), some (.int 0)] []) := by
      intro hD r1 G1 hR hag1 h231 hring1
      refine zz_aload_n (pc := 131) C dX3_setAction_131 rfl ?_
      refine zz_get (pc := 132) C in_X3_setAction_X3 (ci := 3) rfl 11 (by decide) (fl_X3_setAction_44) rfl dX3_setAction_132 hR.2.1 rfl ?_
      refine zz_iload_n (pc := 135) C dX3_setAction_135 rfl ?_
      refine zz_dup2 (pc := 136) C dX3_setAction_136 rfl rfl ?_
      refine zz_mld (pc := 137) C hR 11 (by decide) rfl dX3_setAction_137 hx.1 (by show _ < 41; have := hx.2.2; omega) ?_
      refine zz_iload (pc := 138) C dX3_setAction_138 rfl ?_
      refine zz_if_eq (pc := 140) C (tgt := 151) dX3_setAction_140 (by decide) (fun hc140 => ?_) (fun hc140 => ?_)
      · refine zz_iconst (pc := 151) C (v := -1) (by decide) dX3_setAction_151 ?_
        refine zz_iand (pc := 152) C dX3_setAction_152 ?_
        refine zz_mst (pc := 153) C hR 11 (by decide) rfl dX3_setAction_153 hx.1 (by show _ < 41; have := hx.2.2; omega) (fun G hR => ?_)
        refine zz_iload (pc := 154) C dX3_setAction_154 rfl ?_
        exact zz_ireturn (pc := 156) C dX3_setAction_156 rfl (Nat.le_refl _) (Nat.le_refl _) ⟨zvok hT (rfl), zMod.ok hT hR (by rw [zSetA_n hD, ← zu_off (σ := σ) (f := 9) (p := 9 * pn x + pn s9) (v := a9) (show 11 ≠ 9 by decide), ← hag1 11 (by decide)]; exact zAg_zu hag1) h231 (hring1.ag rfl rfl rfl)⟩
      · exact absurd rfl hc140
    refine zz_callV (pc := 71) C (c_X3_fails l D hR (w := 0)) gX3_setAction_X3_fails rfl 1 (by decide +kernel) ⟨Nat.le_of_ble_eq_true rfl, Nat.le_of_ble_eq_true rfl⟩ hR.2.1 (ci := 3) rfl rfl rfl dX3_setAction_71 rfl (Nat.le_of_ble_eq_true rfl) rfl ⟨Nat.le_of_ble_eq_true rfl, Nat.le_of_ble_eq_true rfl⟩ ?_
    rintro v G9 ⟨rfl, hR⟩
    have hag : zAg (zu (zMix σ t9) 23 0 0) σ := zAg_off hag (by decide)
    have hring : zRing (zu (zMix σ t9) 23 0 0) [] := hring.ag rfl rfl rfl
    have h23 : (zu (zMix σ t9) 23 0 0) 23 0 = 0 := zu_self
    refine zz_if_eq (pc := 74) C (tgt := 79) dX3_setAction_74 (by decide) (fun hc74 => ?_) (fun hc74 => ?_)
    · refine zz_aload_n (pc := 79) C dX3_setAction_79 rfl ?_
      refine zz_get (pc := 80) C in_X3_setAction_X3 (ci := 3) rfl 9 (by decide) (fl_X3_setAction_38) rfl dX3_setAction_80 hR.2.1 rfl ?_
      refine zz_bipush (pc := 83) C (v := 9) (by decide) dX3_setAction_83 ?_
      refine zz_iload_n (pc := 85) C dX3_setAction_85 rfl ?_
      refine zz_imul (pc := 86) C dX3_setAction_86 ?_
      refine zz_iload_n (pc := 87) C dX3_setAction_87 rfl ?_
      refine zz_iadd (pc := 88) C dX3_setAction_88 ?_
      refine zz_mld (pc := 89) C hR 9 (by decide) rfl dX3_setAction_89 (z9x hx.1 hs.1) (by show _ < 369; have := hx.2.2; have := hs.2; omega) ?_
      refine zz_istore (pc := 90) C dX3_setAction_90 (Nat.le_of_ble_eq_true rfl) ?_
      refine zz_aload_n (pc := 92) C dX3_setAction_92 rfl ?_
      refine zz_get (pc := 93) C in_X3_setAction_X3 (ci := 3) rfl 9 (by decide) (fl_X3_setAction_38) rfl dX3_setAction_93 hR.2.1 rfl ?_
      refine zz_bipush (pc := 96) C (v := 9) (by decide) dX3_setAction_96 ?_
      refine zz_iload_n (pc := 98) C dX3_setAction_98 rfl ?_
      refine zz_imul (pc := 99) C dX3_setAction_99 ?_
      refine zz_iload_n (pc := 100) C dX3_setAction_100 rfl ?_
      refine zz_iadd (pc := 101) C dX3_setAction_101 ?_
      refine zz_iload_n (pc := 102) C dX3_setAction_102 rfl ?_
      refine zz_mst (pc := 103) C hR 9 (by decide) rfl dX3_setAction_103 (z9x hx.1 hs.1) (by show _ < 369; have := hx.2.2; have := hs.2; omega) (fun G hR => ?_)
      refine zz_iload_n (pc := 104) C dX3_setAction_104 rfl ?_
      refine zz_iconst (pc := 105) C (v := 1) (by decide) dX3_setAction_105 ?_
      refine zz_icmp_eq (pc := 106) C (tgt := 124) dX3_setAction_106 (by decide) (fun hc106 => ?_) (fun hc106 => ?_)
      · refine zz_iconst (pc := 124) C (v := 1) (by decide) dX3_setAction_124 ?_
        refine zz_goto (pc := 125) C (tgt := 129) dX3_setAction_125 (by decide) ?_
        refine zz_istore (pc := 129) C dX3_setAction_129 (Nat.le_of_ble_eq_true rfl) ?_
        first
          | exact zV.less (L' := [some (.ref y), some (.int x), some (.int s9), some (.int a9), none, some (.int (σ 9 (9 * pn x + pn s9))), some (.int 1)]) ⟨rfl, rfl, rfl, rfl, rfl, rfl, trivial⟩ (kD1 (Or.inl hc106) _ _ hR (zAg_zu hag) h23 (hring.ag rfl rfl rfl))
          | exact zV.less (L' := [some (.ref y), some (.int x), some (.int s9), some (.int a9), none, some (.int (σ 9 (9 * pn x + pn s9))), some (.int 0)]) ⟨rfl, rfl, rfl, rfl, rfl, rfl, trivial⟩ (kD0 (fun z => z.elim hc106 (fun u => hc110 u.1)) _ _ hR (zAg_zu hag) h23 (hring.ag rfl rfl rfl))
          | exact zV.less (L' := [some (.ref y), some (.int x), some (.int s9), some (.int a9), none, some (.int (σ 9 (9 * pn x + pn s9))), some (.int 1)]) ⟨rfl, rfl, rfl, rfl, rfl, rfl, trivial⟩ (kD1 (Or.inr ⟨Classical.not_not.mp hc110, Or.inl hc115⟩) _ _ hR (zAg_zu hag) h23 (hring.ag rfl rfl rfl))
          | exact zV.less (L' := [some (.ref y), some (.int x), some (.int s9), some (.int a9), none, some (.int (σ 9 (9 * pn x + pn s9))), some (.int 0)]) ⟨rfl, rfl, rfl, rfl, rfl, rfl, trivial⟩ (kD0 (fun z => z.elim hc106 (fun u => u.2.elim hc115 hc121)) _ _ hR (zAg_zu hag) h23 (hring.ag rfl rfl rfl))
          | exact zV.less (L' := [some (.ref y), some (.int x), some (.int s9), some (.int a9), none, some (.int (σ 9 (9 * pn x + pn s9))), some (.int 1)]) ⟨rfl, rfl, rfl, rfl, rfl, rfl, trivial⟩ (kD1 (Or.inr ⟨Classical.not_not.mp hc110, Or.inr (Classical.not_not.mp hc121)⟩) _ _ hR (zAg_zu hag) h23 (hring.ag rfl rfl rfl))
      · refine zz_iload_n (pc := 109) C dX3_setAction_109 rfl ?_
        refine zz_if_ne (pc := 110) C (tgt := 128) dX3_setAction_110 (by decide) (fun hc110 => ?_) (fun hc110 => ?_)
        · refine zz_iconst (pc := 128) C (v := 0) (by decide) dX3_setAction_128 ?_
          refine zz_istore (pc := 129) C dX3_setAction_129 (Nat.le_of_ble_eq_true rfl) ?_
          first
            | exact zV.less (L' := [some (.ref y), some (.int x), some (.int s9), some (.int a9), none, some (.int (σ 9 (9 * pn x + pn s9))), some (.int 1)]) ⟨rfl, rfl, rfl, rfl, rfl, rfl, trivial⟩ (kD1 (Or.inl hc106) _ _ hR (zAg_zu hag) h23 (hring.ag rfl rfl rfl))
            | exact zV.less (L' := [some (.ref y), some (.int x), some (.int s9), some (.int a9), none, some (.int (σ 9 (9 * pn x + pn s9))), some (.int 0)]) ⟨rfl, rfl, rfl, rfl, rfl, rfl, trivial⟩ (kD0 (fun z => z.elim hc106 (fun u => hc110 u.1)) _ _ hR (zAg_zu hag) h23 (hring.ag rfl rfl rfl))
            | exact zV.less (L' := [some (.ref y), some (.int x), some (.int s9), some (.int a9), none, some (.int (σ 9 (9 * pn x + pn s9))), some (.int 1)]) ⟨rfl, rfl, rfl, rfl, rfl, rfl, trivial⟩ (kD1 (Or.inr ⟨Classical.not_not.mp hc110, Or.inl hc115⟩) _ _ hR (zAg_zu hag) h23 (hring.ag rfl rfl rfl))
            | exact zV.less (L' := [some (.ref y), some (.int x), some (.int s9), some (.int a9), none, some (.int (σ 9 (9 * pn x + pn s9))), some (.int 0)]) ⟨rfl, rfl, rfl, rfl, rfl, rfl, trivial⟩ (kD0 (fun z => z.elim hc106 (fun u => u.2.elim hc115 hc121)) _ _ hR (zAg_zu hag) h23 (hring.ag rfl rfl rfl))
            | exact zV.less (L' := [some (.ref y), some (.int x), some (.int s9), some (.int a9), none, some (.int (σ 9 (9 * pn x + pn s9))), some (.int 1)]) ⟨rfl, rfl, rfl, rfl, rfl, rfl, trivial⟩ (kD1 (Or.inr ⟨Classical.not_not.mp hc110, Or.inr (Classical.not_not.mp hc121)⟩) _ _ hR (zAg_zu hag) h23 (hring.ag rfl rfl rfl))
        · refine zz_iload_n (pc := 113) C dX3_setAction_113 rfl ?_
          refine zz_iconst (pc := 114) C (v := 4) (by decide) dX3_setAction_114 ?_
          refine zz_icmp_eq (pc := 115) C (tgt := 124) dX3_setAction_115 (by decide) (fun hc115 => ?_) (fun hc115 => ?_)
          · refine zz_iconst (pc := 124) C (v := 1) (by decide) dX3_setAction_124 ?_
            refine zz_goto (pc := 125) C (tgt := 129) dX3_setAction_125 (by decide) ?_
            refine zz_istore (pc := 129) C dX3_setAction_129 (Nat.le_of_ble_eq_true rfl) ?_
            first
              | exact zV.less (L' := [some (.ref y), some (.int x), some (.int s9), some (.int a9), none, some (.int (σ 9 (9 * pn x + pn s9))), some (.int 1)]) ⟨rfl, rfl, rfl, rfl, rfl, rfl, trivial⟩ (kD1 (Or.inl hc106) _ _ hR (zAg_zu hag) h23 (hring.ag rfl rfl rfl))
              | exact zV.less (L' := [some (.ref y), some (.int x), some (.int s9), some (.int a9), none, some (.int (σ 9 (9 * pn x + pn s9))), some (.int 0)]) ⟨rfl, rfl, rfl, rfl, rfl, rfl, trivial⟩ (kD0 (fun z => z.elim hc106 (fun u => hc110 u.1)) _ _ hR (zAg_zu hag) h23 (hring.ag rfl rfl rfl))
              | exact zV.less (L' := [some (.ref y), some (.int x), some (.int s9), some (.int a9), none, some (.int (σ 9 (9 * pn x + pn s9))), some (.int 1)]) ⟨rfl, rfl, rfl, rfl, rfl, rfl, trivial⟩ (kD1 (Or.inr ⟨Classical.not_not.mp hc110, Or.inl hc115⟩) _ _ hR (zAg_zu hag) h23 (hring.ag rfl rfl rfl))
              | exact zV.less (L' := [some (.ref y), some (.int x), some (.int s9), some (.int a9), none, some (.int (σ 9 (9 * pn x + pn s9))), some (.int 0)]) ⟨rfl, rfl, rfl, rfl, rfl, rfl, trivial⟩ (kD0 (fun z => z.elim hc106 (fun u => u.2.elim hc115 hc121)) _ _ hR (zAg_zu hag) h23 (hring.ag rfl rfl rfl))
              | exact zV.less (L' := [some (.ref y), some (.int x), some (.int s9), some (.int a9), none, some (.int (σ 9 (9 * pn x + pn s9))), some (.int 1)]) ⟨rfl, rfl, rfl, rfl, rfl, rfl, trivial⟩ (kD1 (Or.inr ⟨Classical.not_not.mp hc110, Or.inr (Classical.not_not.mp hc121)⟩) _ _ hR (zAg_zu hag) h23 (hring.ag rfl rfl rfl))
          · refine zz_iload_n (pc := 118) C dX3_setAction_118 rfl ?_
            refine zz_bipush (pc := 119) C (v := 7) (by decide) dX3_setAction_119 ?_
            refine zz_icmp_ne (pc := 121) C (tgt := 128) dX3_setAction_121 (by decide) (fun hc121 => ?_) (fun hc121 => ?_)
            · refine zz_iconst (pc := 128) C (v := 0) (by decide) dX3_setAction_128 ?_
              refine zz_istore (pc := 129) C dX3_setAction_129 (Nat.le_of_ble_eq_true rfl) ?_
              first
                | exact zV.less (L' := [some (.ref y), some (.int x), some (.int s9), some (.int a9), none, some (.int (σ 9 (9 * pn x + pn s9))), some (.int 1)]) ⟨rfl, rfl, rfl, rfl, rfl, rfl, trivial⟩ (kD1 (Or.inl hc106) _ _ hR (zAg_zu hag) h23 (hring.ag rfl rfl rfl))
                | exact zV.less (L' := [some (.ref y), some (.int x), some (.int s9), some (.int a9), none, some (.int (σ 9 (9 * pn x + pn s9))), some (.int 0)]) ⟨rfl, rfl, rfl, rfl, rfl, rfl, trivial⟩ (kD0 (fun z => z.elim hc106 (fun u => hc110 u.1)) _ _ hR (zAg_zu hag) h23 (hring.ag rfl rfl rfl))
                | exact zV.less (L' := [some (.ref y), some (.int x), some (.int s9), some (.int a9), none, some (.int (σ 9 (9 * pn x + pn s9))), some (.int 1)]) ⟨rfl, rfl, rfl, rfl, rfl, rfl, trivial⟩ (kD1 (Or.inr ⟨Classical.not_not.mp hc110, Or.inl hc115⟩) _ _ hR (zAg_zu hag) h23 (hring.ag rfl rfl rfl))
                | exact zV.less (L' := [some (.ref y), some (.int x), some (.int s9), some (.int a9), none, some (.int (σ 9 (9 * pn x + pn s9))), some (.int 0)]) ⟨rfl, rfl, rfl, rfl, rfl, rfl, trivial⟩ (kD0 (fun z => z.elim hc106 (fun u => u.2.elim hc115 hc121)) _ _ hR (zAg_zu hag) h23 (hring.ag rfl rfl rfl))
                | exact zV.less (L' := [some (.ref y), some (.int x), some (.int s9), some (.int a9), none, some (.int (σ 9 (9 * pn x + pn s9))), some (.int 1)]) ⟨rfl, rfl, rfl, rfl, rfl, rfl, trivial⟩ (kD1 (Or.inr ⟨Classical.not_not.mp hc110, Or.inr (Classical.not_not.mp hc121)⟩) _ _ hR (zAg_zu hag) h23 (hring.ag rfl rfl rfl))
            · refine zz_iconst (pc := 124) C (v := 1) (by decide) dX3_setAction_124 ?_
              refine zz_goto (pc := 125) C (tgt := 129) dX3_setAction_125 (by decide) ?_
              refine zz_istore (pc := 129) C dX3_setAction_129 (Nat.le_of_ble_eq_true rfl) ?_
              first
                | exact zV.less (L' := [some (.ref y), some (.int x), some (.int s9), some (.int a9), none, some (.int (σ 9 (9 * pn x + pn s9))), some (.int 1)]) ⟨rfl, rfl, rfl, rfl, rfl, rfl, trivial⟩ (kD1 (Or.inl hc106) _ _ hR (zAg_zu hag) h23 (hring.ag rfl rfl rfl))
                | exact zV.less (L' := [some (.ref y), some (.int x), some (.int s9), some (.int a9), none, some (.int (σ 9 (9 * pn x + pn s9))), some (.int 0)]) ⟨rfl, rfl, rfl, rfl, rfl, rfl, trivial⟩ (kD0 (fun z => z.elim hc106 (fun u => hc110 u.1)) _ _ hR (zAg_zu hag) h23 (hring.ag rfl rfl rfl))
                | exact zV.less (L' := [some (.ref y), some (.int x), some (.int s9), some (.int a9), none, some (.int (σ 9 (9 * pn x + pn s9))), some (.int 1)]) ⟨rfl, rfl, rfl, rfl, rfl, rfl, trivial⟩ (kD1 (Or.inr ⟨Classical.not_not.mp hc110, Or.inl hc115⟩) _ _ hR (zAg_zu hag) h23 (hring.ag rfl rfl rfl))
                | exact zV.less (L' := [some (.ref y), some (.int x), some (.int s9), some (.int a9), none, some (.int (σ 9 (9 * pn x + pn s9))), some (.int 0)]) ⟨rfl, rfl, rfl, rfl, rfl, rfl, trivial⟩ (kD0 (fun z => z.elim hc106 (fun u => u.2.elim hc115 hc121)) _ _ hR (zAg_zu hag) h23 (hring.ag rfl rfl rfl))
                | exact zV.less (L' := [some (.ref y), some (.int x), some (.int s9), some (.int a9), none, some (.int (σ 9 (9 * pn x + pn s9))), some (.int 1)]) ⟨rfl, rfl, rfl, rfl, rfl, rfl, trivial⟩ (kD1 (Or.inr ⟨Classical.not_not.mp hc110, Or.inr (Classical.not_not.mp hc121)⟩) _ _ hR (zAg_zu hag) h23 (hring.ag rfl rfl rfl))
    · exact (z01 hc74).elim
  have k1 : ∀ w9 : Int32, zE3 (¬ zHere σ x) (¬ zOkA s9 a9) (zNot σ (pn x)) = w9 → 0 < w9 → zV p l e ({ frames := 2, cells := 0, slots := 0, locals := 42 } : Room) s m args below meth c D (zA G s.heap.size) 0 0 (zZ below D G (fun v G9 => v = some (.int (if zE3 (¬ zHere σ x) (¬ zOkA s9 a9) (zNot σ (pn x)) = 0 then σ 9 (9 * pn x + pn s9) else 0)) ∧ zMod B y ma (if zE3 (¬ zHere σ x) (¬ zOkA s9 a9) (zNot σ (pn x)) = 0 then zSetA σ (pn x) s9 a9 else σ) [] (zE3 (¬ zHere σ x) (¬ zOkA s9 a9) (zNot σ (pn x))) G9) args s ({ frames := 2, cells := 0, slots := 0, locals := 42 } : Room)) G 71 [some (.ref y), some (.int x), some (.int s9), some (.int a9), none, none, none] [.int w9, .ref y] := by
    intro w9 hT hw9
    refine zz_callV (pc := 71) C (c_X3_fails l D hR (w := w9)) gX3_setAction_X3_fails rfl 1 (by decide +kernel) ⟨Nat.le_of_ble_eq_true rfl, Nat.le_of_ble_eq_true rfl⟩ hR.2.1 (ci := 3) rfl rfl rfl dX3_setAction_71 rfl (Nat.le_of_ble_eq_true rfl) rfl ⟨Nat.le_of_ble_eq_true rfl, Nat.le_of_ble_eq_true rfl⟩ ?_
    rintro v G9 ⟨rfl, hR⟩
    have hag : zAg (zu (zMix σ t9) 23 0 w9) σ := zAg_off hag (by decide)
    have hring : zRing (zu (zMix σ t9) 23 0 w9) [] := hring.ag rfl rfl rfl
    have h23 : (zu (zMix σ t9) 23 0 w9) 23 0 = w9 := zu_self
    refine zz_if_eq (pc := 74) C (tgt := 79) dX3_setAction_74 (by decide) (fun hc74 => ?_) (fun hc74 => ?_)
    · exact (zw0 hc74 hw9).elim
    · refine zz_iconst (pc := 77) C (v := 0) (by decide) dX3_setAction_77 ?_
      exact zz_ireturn (pc := 78) C dX3_setAction_78 (by first | rfl | decide) (Nat.le_refl _) (Nat.le_refl _) ⟨zvno hT hw9, zMod.no hT hw9 hR hag h23 hring⟩
  have kB1 : zOkA s9 a9 → zV p l e ({ frames := 2, cells := 0, slots := 0, locals := 42 } : Room) s m args below meth c D (zA G s.heap.size) 0 0 (zZ below D G (fun v G9 => v = some (.int (if zE3 (¬ zHere σ x) (¬ zOkA s9 a9) (zNot σ (pn x)) = 0 then σ 9 (9 * pn x + pn s9) else 0)) ∧ zMod B y ma (if zE3 (¬ zHere σ x) (¬ zOkA s9 a9) (zNot σ (pn x)) = 0 then zSetA σ (pn x) s9 a9 else σ) [] (zE3 (¬ zHere σ x) (¬ zOkA s9 a9) (zNot σ (pn x))) G9) args s ({ frames := 2, cells := 0, slots := 0, locals := 42 } : Room)) G 36 [some (.ref y), some (.int x), some (.int s9), some (.int a9), some (.int 1), none, none] [] := by
    intro hok
    refine zz_aload_n (pc := 36) C dX3_setAction_36 rfl ?_
    refine zz_aload_n (pc := 37) C dX3_setAction_37 rfl ?_
    refine zz_iload_n (pc := 38) C dX3_setAction_38 rfl ?_
    refine zz_callV (pc := 39) C (c_X3_is l D hR (x := x)) gX3_setAction_X3_is rfl 1 (by decide +kernel) ⟨Nat.le_of_ble_eq_true rfl, Nat.le_of_ble_eq_true rfl⟩ hR.2.1 (ci := 3) rfl rfl rfl dX3_setAction_39 rfl (Nat.le_of_ble_eq_true rfl) rfl ⟨Nat.le_of_ble_eq_true rfl, Nat.le_of_ble_eq_true rfl⟩ ?_
    rintro v G9 ⟨rfl, rfl⟩
    refine zz_if_ne (pc := 42) C (tgt := 49) dX3_setAction_42 (by decide) (fun hc42 => ?_) (fun hc42 => ?_)
    · have hH : zHere σ x := zbp hc42
      have hx := hH.at
      refine zz_iload (pc := 49) C dX3_setAction_49 rfl ?_
      refine zz_if_ne (pc := 51) C (tgt := 58) dX3_setAction_51 (by decide) (fun hc51 => ?_) (fun hc51 => ?_)
      · refine zz_aload_n (pc := 58) C dX3_setAction_58 rfl ?_
        refine zz_iload_n (pc := 59) C dX3_setAction_59 rfl ?_
        refine zz_callV (pc := 60) C (c_xcannot l D hR hx) gX3_setAction_X3_cannot rfl 1 (by decide +kernel) ⟨Nat.le_of_ble_eq_true rfl, Nat.le_of_ble_eq_true rfl⟩ hR.2.1 (ci := 3) rfl rfl rfl dX3_setAction_60 rfl (Nat.le_of_ble_eq_true rfl) rfl ⟨Nat.le_of_ble_eq_true rfl, Nat.le_of_ble_eq_true rfl⟩ ?_
        rintro v G9 ⟨rfl, rfl⟩
        refine zz_if_eq (pc := 63) C (tgt := 70) dX3_setAction_63 (by decide) (fun hc63 => ?_) (fun hc63 => ?_)
        · refine zz_iconst (pc := 70) C (v := 0) (by decide) dX3_setAction_70 ?_
          first
            | exact zV.less (L' := [some (.ref y), some (.int x), some (.int s9), some (.int a9), none, none, none]) ⟨rfl, rfl, rfl, rfl, trivial⟩ (k0 (zE3_0 (fun z => z hH) (fun z => z hok) (zb_eq.mp hc63)))
            | exact zV.less (L' := [some (.ref y), some (.int x), some (.int s9), some (.int a9), none, none, none]) ⟨rfl, rfl, rfl, rfl, trivial⟩ (k1 3 (zE3_3 (fun z => z hH) (fun z => z hok) (zbp hc63)) (by decide))
            | exact zV.less (L' := [some (.ref y), some (.int x), some (.int s9), some (.int a9), none, none, none]) ⟨rfl, rfl, rfl, rfl, trivial⟩ (k1 1 (zE3_1 (zbn hc42)) (by decide))
        · refine zz_iconst (pc := 66) C (v := 3) (by decide) dX3_setAction_66 ?_
          refine zz_goto (pc := 67) C (tgt := 71) dX3_setAction_67 (by decide) ?_
          first
            | exact zV.less (L' := [some (.ref y), some (.int x), some (.int s9), some (.int a9), none, none, none]) ⟨rfl, rfl, rfl, rfl, trivial⟩ (k0 (zE3_0 (fun z => z hH) (fun z => z hok) (zb_eq.mp hc63)))
            | exact zV.less (L' := [some (.ref y), some (.int x), some (.int s9), some (.int a9), none, none, none]) ⟨rfl, rfl, rfl, rfl, trivial⟩ (k1 3 (zE3_3 (fun z => z hH) (fun z => z hok) (zbp hc63)) (by decide))
            | exact zV.less (L' := [some (.ref y), some (.int x), some (.int s9), some (.int a9), none, none, none]) ⟨rfl, rfl, rfl, rfl, trivial⟩ (k1 1 (zE3_1 (zbn hc42)) (by decide))
      · exact absurd (by decide) hc51
    · refine zz_iconst (pc := 45) C (v := 1) (by decide) dX3_setAction_45 ?_
      refine zz_goto (pc := 46) C (tgt := 71) dX3_setAction_46 (by decide) ?_
      first
        | exact zV.less (L' := [some (.ref y), some (.int x), some (.int s9), some (.int a9), none, none, none]) ⟨rfl, rfl, rfl, rfl, trivial⟩ (k0 (zE3_0 (fun z => z hH) (fun z => z hok) (zb_eq.mp hc63)))
        | exact zV.less (L' := [some (.ref y), some (.int x), some (.int s9), some (.int a9), none, none, none]) ⟨rfl, rfl, rfl, rfl, trivial⟩ (k1 3 (zE3_3 (fun z => z hH) (fun z => z hok) (zbp hc63)) (by decide))
        | exact zV.less (L' := [some (.ref y), some (.int x), some (.int s9), some (.int a9), none, none, none]) ⟨rfl, rfl, rfl, rfl, trivial⟩ (k1 1 (zE3_1 (zbn hc42)) (by decide))
  have kB0 : ¬ zOkA s9 a9 → zV p l e ({ frames := 2, cells := 0, slots := 0, locals := 42 } : Room) s m args below meth c D (zA G s.heap.size) 0 0 (zZ below D G (fun v G9 => v = some (.int (if zE3 (¬ zHere σ x) (¬ zOkA s9 a9) (zNot σ (pn x)) = 0 then σ 9 (9 * pn x + pn s9) else 0)) ∧ zMod B y ma (if zE3 (¬ zHere σ x) (¬ zOkA s9 a9) (zNot σ (pn x)) = 0 then zSetA σ (pn x) s9 a9 else σ) [] (zE3 (¬ zHere σ x) (¬ zOkA s9 a9) (zNot σ (pn x))) G9) args s ({ frames := 2, cells := 0, slots := 0, locals := 42 } : Room)) G 36 [some (.ref y), some (.int x), some (.int s9), some (.int a9), some (.int 0), none, none] [] := by
    intro hok
    refine zz_aload_n (pc := 36) C dX3_setAction_36 rfl ?_
    refine zz_aload_n (pc := 37) C dX3_setAction_37 rfl ?_
    refine zz_iload_n (pc := 38) C dX3_setAction_38 rfl ?_
    refine zz_callV (pc := 39) C (c_X3_is l D hR (x := x)) gX3_setAction_X3_is rfl 1 (by decide +kernel) ⟨Nat.le_of_ble_eq_true rfl, Nat.le_of_ble_eq_true rfl⟩ hR.2.1 (ci := 3) rfl rfl rfl dX3_setAction_39 rfl (Nat.le_of_ble_eq_true rfl) rfl ⟨Nat.le_of_ble_eq_true rfl, Nat.le_of_ble_eq_true rfl⟩ ?_
    rintro v G9 ⟨rfl, rfl⟩
    refine zz_if_ne (pc := 42) C (tgt := 49) dX3_setAction_42 (by decide) (fun hc42 => ?_) (fun hc42 => ?_)
    · have hH : zHere σ x := zbp hc42
      refine zz_iload (pc := 49) C dX3_setAction_49 rfl ?_
      refine zz_if_ne (pc := 51) C (tgt := 58) dX3_setAction_51 (by decide) (fun hc51 => ?_) (fun hc51 => ?_)
      · exact absurd rfl hc51
      · refine zz_iconst (pc := 54) C (v := 2) (by decide) dX3_setAction_54 ?_
        refine zz_goto (pc := 55) C (tgt := 71) dX3_setAction_55 (by decide) ?_
        first
          | exact zV.less (L' := [some (.ref y), some (.int x), some (.int s9), some (.int a9), none, none, none]) ⟨rfl, rfl, rfl, rfl, trivial⟩ (k1 2 (zE3_2 (fun z => z hH) hok) (by decide))
          | exact zV.less (L' := [some (.ref y), some (.int x), some (.int s9), some (.int a9), none, none, none]) ⟨rfl, rfl, rfl, rfl, trivial⟩ (k1 1 (zE3_1 (zbn hc42)) (by decide))
    · refine zz_iconst (pc := 45) C (v := 1) (by decide) dX3_setAction_45 ?_
      refine zz_goto (pc := 46) C (tgt := 71) dX3_setAction_46 (by decide) ?_
      first
        | exact zV.less (L' := [some (.ref y), some (.int x), some (.int s9), some (.int a9), none, none, none]) ⟨rfl, rfl, rfl, rfl, trivial⟩ (k1 2 (zE3_2 (fun z => z hH) hok) (by decide))
        | exact zV.less (L' := [some (.ref y), some (.int x), some (.int s9), some (.int a9), none, none, none]) ⟨rfl, rfl, rfl, rfl, trivial⟩ (k1 1 (zE3_1 (zbn hc42)) (by decide))
  refine zz_iload_n (pc := 0) C dX3_setAction_0 rfl ?_
  refine zz_if_lt (pc := 1) C (tgt := 33) dX3_setAction_1 (by decide) (fun hc1 => ?_) (fun hc1 => ?_)
  · refine zz_iconst (pc := 33) C (v := 0) (by decide) dX3_setAction_33 ?_
    refine zz_istore (pc := 34) C dX3_setAction_34 (Nat.le_of_ble_eq_true rfl) ?_
    first
      | exact zV.less (L' := [some (.ref y), some (.int x), some (.int s9), some (.int a9), some (.int 1), none, none]) ⟨rfl, rfl, rfl, rfl, rfl, trivial⟩ (kB1 ⟨hc1, Int32.not_le.mp hc7, hc12, hc17, hc21, hc26⟩)
      | exact zV.less (L' := [some (.ref y), some (.int x), some (.int s9), some (.int a9), some (.int 0), none, none]) ⟨rfl, rfl, rfl, rfl, rfl, trivial⟩ (kB0 (fun z => z.1 hc1))
      | exact zV.less (L' := [some (.ref y), some (.int x), some (.int s9), some (.int a9), some (.int 0), none, none]) ⟨rfl, rfl, rfl, rfl, rfl, trivial⟩ (kB0 (fun z => absurd z.2.1 (Int32.not_lt.mpr hc7)))
      | exact zV.less (L' := [some (.ref y), some (.int x), some (.int s9), some (.int a9), some (.int 0), none, none]) ⟨rfl, rfl, rfl, rfl, rfl, trivial⟩ (kB0 (fun z => z.2.2.1 hc12))
      | exact zV.less (L' := [some (.ref y), some (.int x), some (.int s9), some (.int a9), some (.int 0), none, none]) ⟨rfl, rfl, rfl, rfl, rfl, trivial⟩ (kB0 (fun z => z.2.2.2.1 hc17))
      | exact zV.less (L' := [some (.ref y), some (.int x), some (.int s9), some (.int a9), some (.int 0), none, none]) ⟨rfl, rfl, rfl, rfl, rfl, trivial⟩ (kB0 (fun z => z.2.2.2.2.1 hc21))
      | exact zV.less (L' := [some (.ref y), some (.int x), some (.int s9), some (.int a9), some (.int 0), none, none]) ⟨rfl, rfl, rfl, rfl, rfl, trivial⟩ (kB0 (fun z => z.2.2.2.2.2 hc26))
  · refine zz_iload_n (pc := 4) C dX3_setAction_4 rfl ?_
    refine zz_bipush (pc := 5) C (v := 9) (by decide) dX3_setAction_5 ?_
    refine zz_icmp_ge (pc := 7) C (tgt := 33) dX3_setAction_7 (by decide) (fun hc7 => ?_) (fun hc7 => ?_)
    · refine zz_iconst (pc := 33) C (v := 0) (by decide) dX3_setAction_33 ?_
      refine zz_istore (pc := 34) C dX3_setAction_34 (Nat.le_of_ble_eq_true rfl) ?_
      first
        | exact zV.less (L' := [some (.ref y), some (.int x), some (.int s9), some (.int a9), some (.int 1), none, none]) ⟨rfl, rfl, rfl, rfl, rfl, trivial⟩ (kB1 ⟨hc1, Int32.not_le.mp hc7, hc12, hc17, hc21, hc26⟩)
        | exact zV.less (L' := [some (.ref y), some (.int x), some (.int s9), some (.int a9), some (.int 0), none, none]) ⟨rfl, rfl, rfl, rfl, rfl, trivial⟩ (kB0 (fun z => z.1 hc1))
        | exact zV.less (L' := [some (.ref y), some (.int x), some (.int s9), some (.int a9), some (.int 0), none, none]) ⟨rfl, rfl, rfl, rfl, rfl, trivial⟩ (kB0 (fun z => absurd z.2.1 (Int32.not_lt.mpr hc7)))
        | exact zV.less (L' := [some (.ref y), some (.int x), some (.int s9), some (.int a9), some (.int 0), none, none]) ⟨rfl, rfl, rfl, rfl, rfl, trivial⟩ (kB0 (fun z => z.2.2.1 hc12))
        | exact zV.less (L' := [some (.ref y), some (.int x), some (.int s9), some (.int a9), some (.int 0), none, none]) ⟨rfl, rfl, rfl, rfl, rfl, trivial⟩ (kB0 (fun z => z.2.2.2.1 hc17))
        | exact zV.less (L' := [some (.ref y), some (.int x), some (.int s9), some (.int a9), some (.int 0), none, none]) ⟨rfl, rfl, rfl, rfl, rfl, trivial⟩ (kB0 (fun z => z.2.2.2.2.1 hc21))
        | exact zV.less (L' := [some (.ref y), some (.int x), some (.int s9), some (.int a9), some (.int 0), none, none]) ⟨rfl, rfl, rfl, rfl, rfl, trivial⟩ (kB0 (fun z => z.2.2.2.2.2 hc26))
    · refine zz_iload_n (pc := 10) C dX3_setAction_10 rfl ?_
      refine zz_iconst (pc := 11) C (v := 2) (by decide) dX3_setAction_11 ?_
      refine zz_icmp_eq (pc := 12) C (tgt := 33) dX3_setAction_12 (by decide) (fun hc12 => ?_) (fun hc12 => ?_)
      · refine zz_iconst (pc := 33) C (v := 0) (by decide) dX3_setAction_33 ?_
        refine zz_istore (pc := 34) C dX3_setAction_34 (Nat.le_of_ble_eq_true rfl) ?_
        first
          | exact zV.less (L' := [some (.ref y), some (.int x), some (.int s9), some (.int a9), some (.int 1), none, none]) ⟨rfl, rfl, rfl, rfl, rfl, trivial⟩ (kB1 ⟨hc1, Int32.not_le.mp hc7, hc12, hc17, hc21, hc26⟩)
          | exact zV.less (L' := [some (.ref y), some (.int x), some (.int s9), some (.int a9), some (.int 0), none, none]) ⟨rfl, rfl, rfl, rfl, rfl, trivial⟩ (kB0 (fun z => z.1 hc1))
          | exact zV.less (L' := [some (.ref y), some (.int x), some (.int s9), some (.int a9), some (.int 0), none, none]) ⟨rfl, rfl, rfl, rfl, rfl, trivial⟩ (kB0 (fun z => absurd z.2.1 (Int32.not_lt.mpr hc7)))
          | exact zV.less (L' := [some (.ref y), some (.int x), some (.int s9), some (.int a9), some (.int 0), none, none]) ⟨rfl, rfl, rfl, rfl, rfl, trivial⟩ (kB0 (fun z => z.2.2.1 hc12))
          | exact zV.less (L' := [some (.ref y), some (.int x), some (.int s9), some (.int a9), some (.int 0), none, none]) ⟨rfl, rfl, rfl, rfl, rfl, trivial⟩ (kB0 (fun z => z.2.2.2.1 hc17))
          | exact zV.less (L' := [some (.ref y), some (.int x), some (.int s9), some (.int a9), some (.int 0), none, none]) ⟨rfl, rfl, rfl, rfl, rfl, trivial⟩ (kB0 (fun z => z.2.2.2.2.1 hc21))
          | exact zV.less (L' := [some (.ref y), some (.int x), some (.int s9), some (.int a9), some (.int 0), none, none]) ⟨rfl, rfl, rfl, rfl, rfl, trivial⟩ (kB0 (fun z => z.2.2.2.2.2 hc26))
      · refine zz_iload_n (pc := 15) C dX3_setAction_15 rfl ?_
        refine zz_iconst (pc := 16) C (v := 5) (by decide) dX3_setAction_16 ?_
        refine zz_icmp_eq (pc := 17) C (tgt := 33) dX3_setAction_17 (by decide) (fun hc17 => ?_) (fun hc17 => ?_)
        · refine zz_iconst (pc := 33) C (v := 0) (by decide) dX3_setAction_33 ?_
          refine zz_istore (pc := 34) C dX3_setAction_34 (Nat.le_of_ble_eq_true rfl) ?_
          first
            | exact zV.less (L' := [some (.ref y), some (.int x), some (.int s9), some (.int a9), some (.int 1), none, none]) ⟨rfl, rfl, rfl, rfl, rfl, trivial⟩ (kB1 ⟨hc1, Int32.not_le.mp hc7, hc12, hc17, hc21, hc26⟩)
            | exact zV.less (L' := [some (.ref y), some (.int x), some (.int s9), some (.int a9), some (.int 0), none, none]) ⟨rfl, rfl, rfl, rfl, rfl, trivial⟩ (kB0 (fun z => z.1 hc1))
            | exact zV.less (L' := [some (.ref y), some (.int x), some (.int s9), some (.int a9), some (.int 0), none, none]) ⟨rfl, rfl, rfl, rfl, rfl, trivial⟩ (kB0 (fun z => absurd z.2.1 (Int32.not_lt.mpr hc7)))
            | exact zV.less (L' := [some (.ref y), some (.int x), some (.int s9), some (.int a9), some (.int 0), none, none]) ⟨rfl, rfl, rfl, rfl, rfl, trivial⟩ (kB0 (fun z => z.2.2.1 hc12))
            | exact zV.less (L' := [some (.ref y), some (.int x), some (.int s9), some (.int a9), some (.int 0), none, none]) ⟨rfl, rfl, rfl, rfl, rfl, trivial⟩ (kB0 (fun z => z.2.2.2.1 hc17))
            | exact zV.less (L' := [some (.ref y), some (.int x), some (.int s9), some (.int a9), some (.int 0), none, none]) ⟨rfl, rfl, rfl, rfl, rfl, trivial⟩ (kB0 (fun z => z.2.2.2.2.1 hc21))
            | exact zV.less (L' := [some (.ref y), some (.int x), some (.int s9), some (.int a9), some (.int 0), none, none]) ⟨rfl, rfl, rfl, rfl, rfl, trivial⟩ (kB0 (fun z => z.2.2.2.2.2 hc26))
        · refine zz_iload_n (pc := 20) C dX3_setAction_20 rfl ?_
          refine zz_if_lt (pc := 21) C (tgt := 33) dX3_setAction_21 (by decide) (fun hc21 => ?_) (fun hc21 => ?_)
          · refine zz_iconst (pc := 33) C (v := 0) (by decide) dX3_setAction_33 ?_
            refine zz_istore (pc := 34) C dX3_setAction_34 (Nat.le_of_ble_eq_true rfl) ?_
            first
              | exact zV.less (L' := [some (.ref y), some (.int x), some (.int s9), some (.int a9), some (.int 1), none, none]) ⟨rfl, rfl, rfl, rfl, rfl, trivial⟩ (kB1 ⟨hc1, Int32.not_le.mp hc7, hc12, hc17, hc21, hc26⟩)
              | exact zV.less (L' := [some (.ref y), some (.int x), some (.int s9), some (.int a9), some (.int 0), none, none]) ⟨rfl, rfl, rfl, rfl, rfl, trivial⟩ (kB0 (fun z => z.1 hc1))
              | exact zV.less (L' := [some (.ref y), some (.int x), some (.int s9), some (.int a9), some (.int 0), none, none]) ⟨rfl, rfl, rfl, rfl, rfl, trivial⟩ (kB0 (fun z => absurd z.2.1 (Int32.not_lt.mpr hc7)))
              | exact zV.less (L' := [some (.ref y), some (.int x), some (.int s9), some (.int a9), some (.int 0), none, none]) ⟨rfl, rfl, rfl, rfl, rfl, trivial⟩ (kB0 (fun z => z.2.2.1 hc12))
              | exact zV.less (L' := [some (.ref y), some (.int x), some (.int s9), some (.int a9), some (.int 0), none, none]) ⟨rfl, rfl, rfl, rfl, rfl, trivial⟩ (kB0 (fun z => z.2.2.2.1 hc17))
              | exact zV.less (L' := [some (.ref y), some (.int x), some (.int s9), some (.int a9), some (.int 0), none, none]) ⟨rfl, rfl, rfl, rfl, rfl, trivial⟩ (kB0 (fun z => z.2.2.2.2.1 hc21))
              | exact zV.less (L' := [some (.ref y), some (.int x), some (.int s9), some (.int a9), some (.int 0), none, none]) ⟨rfl, rfl, rfl, rfl, rfl, trivial⟩ (kB0 (fun z => z.2.2.2.2.2 hc26))
          · refine zz_iload_n (pc := 24) C dX3_setAction_24 rfl ?_
            refine zz_iconst (pc := 25) C (v := 2) (by decide) dX3_setAction_25 ?_
            refine zz_icmp_gt (pc := 26) C (tgt := 33) dX3_setAction_26 (by decide) (fun hc26 => ?_) (fun hc26 => ?_)
            · refine zz_iconst (pc := 33) C (v := 0) (by decide) dX3_setAction_33 ?_
              refine zz_istore (pc := 34) C dX3_setAction_34 (Nat.le_of_ble_eq_true rfl) ?_
              first
                | exact zV.less (L' := [some (.ref y), some (.int x), some (.int s9), some (.int a9), some (.int 1), none, none]) ⟨rfl, rfl, rfl, rfl, rfl, trivial⟩ (kB1 ⟨hc1, Int32.not_le.mp hc7, hc12, hc17, hc21, hc26⟩)
                | exact zV.less (L' := [some (.ref y), some (.int x), some (.int s9), some (.int a9), some (.int 0), none, none]) ⟨rfl, rfl, rfl, rfl, rfl, trivial⟩ (kB0 (fun z => z.1 hc1))
                | exact zV.less (L' := [some (.ref y), some (.int x), some (.int s9), some (.int a9), some (.int 0), none, none]) ⟨rfl, rfl, rfl, rfl, rfl, trivial⟩ (kB0 (fun z => absurd z.2.1 (Int32.not_lt.mpr hc7)))
                | exact zV.less (L' := [some (.ref y), some (.int x), some (.int s9), some (.int a9), some (.int 0), none, none]) ⟨rfl, rfl, rfl, rfl, rfl, trivial⟩ (kB0 (fun z => z.2.2.1 hc12))
                | exact zV.less (L' := [some (.ref y), some (.int x), some (.int s9), some (.int a9), some (.int 0), none, none]) ⟨rfl, rfl, rfl, rfl, rfl, trivial⟩ (kB0 (fun z => z.2.2.2.1 hc17))
                | exact zV.less (L' := [some (.ref y), some (.int x), some (.int s9), some (.int a9), some (.int 0), none, none]) ⟨rfl, rfl, rfl, rfl, rfl, trivial⟩ (kB0 (fun z => z.2.2.2.2.1 hc21))
                | exact zV.less (L' := [some (.ref y), some (.int x), some (.int s9), some (.int a9), some (.int 0), none, none]) ⟨rfl, rfl, rfl, rfl, rfl, trivial⟩ (kB0 (fun z => z.2.2.2.2.2 hc26))
            · refine zz_iconst (pc := 29) C (v := 1) (by decide) dX3_setAction_29 ?_
              refine zz_goto (pc := 30) C (tgt := 34) dX3_setAction_30 (by decide) ?_
              refine zz_istore (pc := 34) C dX3_setAction_34 (Nat.le_of_ble_eq_true rfl) ?_
              first
                | exact zV.less (L' := [some (.ref y), some (.int x), some (.int s9), some (.int a9), some (.int 1), none, none]) ⟨rfl, rfl, rfl, rfl, rfl, trivial⟩ (kB1 ⟨hc1, Int32.not_le.mp hc7, hc12, hc17, hc21, hc26⟩)
                | exact zV.less (L' := [some (.ref y), some (.int x), some (.int s9), some (.int a9), some (.int 0), none, none]) ⟨rfl, rfl, rfl, rfl, rfl, trivial⟩ (kB0 (fun z => z.1 hc1))
                | exact zV.less (L' := [some (.ref y), some (.int x), some (.int s9), some (.int a9), some (.int 0), none, none]) ⟨rfl, rfl, rfl, rfl, rfl, trivial⟩ (kB0 (fun z => absurd z.2.1 (Int32.not_lt.mpr hc7)))
                | exact zV.less (L' := [some (.ref y), some (.int x), some (.int s9), some (.int a9), some (.int 0), none, none]) ⟨rfl, rfl, rfl, rfl, rfl, trivial⟩ (kB0 (fun z => z.2.2.1 hc12))
                | exact zV.less (L' := [some (.ref y), some (.int x), some (.int s9), some (.int a9), some (.int 0), none, none]) ⟨rfl, rfl, rfl, rfl, rfl, trivial⟩ (kB0 (fun z => z.2.2.2.1 hc17))
                | exact zV.less (L' := [some (.ref y), some (.int x), some (.int s9), some (.int a9), some (.int 0), none, none]) ⟨rfl, rfl, rfl, rfl, rfl, trivial⟩ (kB0 (fun z => z.2.2.2.2.1 hc21))
                | exact zV.less (L' := [some (.ref y), some (.int x), some (.int s9), some (.int a9), some (.int 0), none, none]) ⟨rfl, rfl, rfl, rfl, rfl, trivial⟩ (kB0 (fun z => z.2.2.2.2.2 hc26))
