theorem zBest_none {σ : zS} {p : Nat} : ∀ {n : Nat}, (∀ k, k < n → ¬ zRep σ p k) → zBest σ p n = none := by
  intro n h
  unfold zBest
  rw [List.find?_eq_none]
  intro k hk
  rw [decide_eq_true_eq]
  exact h k (List.mem_range.mp hk)
theorem zBest_some {σ : zS} {p b : Nat} : ∀ {n : Nat}, b < n → zRep σ p b → (∀ k, k < b → ¬ zRep σ p k) → zBest σ p n = some b
  | 0, h, _, _ => absurd h (by omega)
  | n + 1, h, hr, hl => by
    unfold zBest
    rw [List.range_succ, List.find?_append]
    by_cases hb : b < n
    · have := zBest_some (n := n) hb hr hl
      unfold zBest at this
      rw [this]
      rfl
    · have hbn : b = n := by omega
      subst hbn
      have := zBest_none (σ := σ) (p := p) (n := b) hl
      unfold zBest at this
      rw [this, List.find?_cons, decide_eq_true hr]
      rfl
theorem zCheck_idle {σ : zS} {p : Nat} (h : σ 6 p = 0 ∨ σ 5 p ≠ 0) : zCheck σ p = σ := if_pos h
theorem zCheck_none {σ : zS} {p : Nat} (h : ¬ (σ 6 p = 0 ∨ σ 5 p ≠ 0)) (hk : ∀ k, k < 41 → ¬ zKid σ p k) : zCheck σ p = zEnds σ p 4 (-1) (-1) := by
  unfold zCheck
  rw [if_neg h, zBest_none (fun k hk1 q => hk k hk1 q.1)]
  exact if_pos hk
theorem zCheck_wait {σ : zS} {p : Nat} (hb : ∀ k, k < 41 → ¬ zRep σ p k) (hk : ¬ ∀ k, k < 41 → ¬ zKid σ p k) : zCheck σ p = σ := by
  by_cases h : σ 6 p = 0 ∨ σ 5 p ≠ 0
  · exact zCheck_idle h
  · unfold zCheck
    rw [if_neg h, zBest_none hb]
    exact if_neg hk
theorem z0b {P : Prop} [Decidable P] (h : ¬ P) : (0 : Int32) = zb P := (zb_f h).symm
theorem z1b {P : Prop} [Decidable P] (h : P) : (1 : Int32) = zb P := (zb_t h).symm
theorem zCheck_zom {σ : zS} {p b : Nat} (h : ¬ (σ 6 p = 0 ∨ σ 5 p ≠ 0)) (hb : b < 41) (hr : zRep σ p b) (hl : ∀ k, k < b → ¬ zRep σ p k) (hz : σ 4 b ≠ 0) : zCheck σ p = zu (zEnds σ p (σ 14 b) (nI b) (σ 15 b)) 0 b 0 := by
  unfold zCheck
  rw [if_neg h, zBest_some hb hr hl]
  exact if_pos hz
theorem zCheck_stp {σ : zS} {p b : Nat} (h : ¬ (σ 6 p = 0 ∨ σ 5 p ≠ 0)) (hb : b < 41) (hr : zRep σ p b) (hl : ∀ k, k < b → ¬ zRep σ p k) (hz : ¬ σ 4 b ≠ 0) : zCheck σ p = zu (zEnds σ p 2 (nI b) (σ 16 b)) 17 b 0 := by
  unfold zCheck
  rw [if_neg h, zBest_some hb hr hl]
  exact if_neg hz
theorem zEnds_off {σ : zS} {p f : Nat} {a b c : Int32} (hf : f ≠ 6 ∧ f ≠ 18 ∧ f ≠ 19 ∧ f ≠ 20) : zEnds σ p a b c f = σ f := by
  unfold zEnds
  rw [zu_off hf.2.2.2, zu_off hf.2.2.1, zu_off hf.2.1, zu_off hf.1]
theorem zCheck_off {σ : zS} {p f : Nat} (hf : f ≠ 0 ∧ f ≠ 17 ∧ f ≠ 6 ∧ f ≠ 18 ∧ f ≠ 19 ∧ f ≠ 20) : zCheck σ p f = σ f := by
  by_cases h : σ 6 p = 0 ∨ σ 5 p ≠ 0
  · rw [zCheck_idle h]
  · unfold zCheck
    rw [if_neg h]
    cases hb : zBest σ p 41 with
    | none =>
      show (if ∀ k, k < 41 → ¬ zKid σ p k then zEnds σ p 4 (-1) (-1) else σ) f = σ f
      split
      · exact zEnds_off hf.2.2
      · rfl
    | some k =>
      show (if σ 4 k ≠ 0 then zu (zEnds σ p (σ 14 k) (nI k) (σ 15 k)) 0 k 0 else zu (zEnds σ p 2 (nI k) (σ 16 k)) 17 k 0) f = σ f
      split
      · rw [zu_off hf.1, zEnds_off hf.2.2]
      · rw [zu_off hf.2.1, zEnds_off hf.2.2]
abbrev zHasK (σ : zS) (p i : Nat) : Prop := ¬ ∀ k, k < 41 → (i < k → ¬ zKid σ p k)
def zBestI (σ : zS) (p i : Nat) (x : Int32) : Prop := (x = -1 ∧ ∀ k, i < k → k < 41 → ¬ zRep σ p k) ∨ ∃ b, x = nI b ∧ i < b ∧ b < 41 ∧ zRep σ p b ∧ ∀ k, i < k → k < b → ¬ zRep σ p k
theorem zHasK_step {σ : zS} {p i : Nat} (hi : i + 1 < 41) : zHasK σ p i ↔ (zHasK σ p (i + 1) ∨ zKid σ p (i + 1)) := by
  constructor
  · intro h
    by_cases hk : zKid σ p (i + 1)
    · exact Or.inr hk
    · left
      intro q
      refine h (fun k hk1 hk2 => ?_)
      by_cases hki : k = i + 1
      · rw [hki]; exact hk
      · exact q k hk1 (by omega)
  · rintro (h | h) q
    · exact h (fun k hk1 hk2 => q k hk1 (by omega))
    · exact q (i + 1) hi (by omega) h
theorem zBestI_no {σ : zS} {p i : Nat} {x : Int32} (h : zBestI σ p (i + 1) x) (hn : ¬ zRep σ p (i + 1)) : zBestI σ p i x := by
  have e : ∀ k, i < k → k ≠ i + 1 → i + 1 < k := fun k h1 h2 => by omega
  rcases h with ⟨h1, h2⟩ | ⟨b, h1, h2, h3, h4, h5⟩
  · refine Or.inl ⟨h1, fun k hk1 hk2 => ?_⟩
    by_cases hk : k = i + 1
    · rw [hk]; exact hn
    · exact h2 k (e k hk1 hk) hk2
  · refine Or.inr ⟨b, h1, by omega, h3, h4, fun k hk1 hk2 => ?_⟩
    by_cases hk : k = i + 1
    · rw [hk]; exact hn
    · exact h5 k (e k hk1 hk) hk2
theorem zBestI_yes {σ : zS} {p i : Nat} (hi : i + 1 < 41) (hn : zRep σ p (i + 1)) : zBestI σ p i (nI (i + 1)) := Or.inr ⟨i + 1, rfl, by omega, hi, hn, fun k h1 h2 => absurd h1 (by omega)⟩
theorem znm1 {b : Nat} (h : b < 41) : ¬ nI b = -1 := fun q => by
  have h1 : (nI b).toInt = (b : Int) := nI_toInt (by omega)
  rw [q] at h1
  have h2 : (-1 : Int32).toInt = -1 := rfl
  rw [h2] at h1
  omega
theorem zm1 (n : Nat) : nI (n + 1) + Int32.ofInt (-1) = nI n := pk_m1 n
theorem fl_X3_checks_29 : Cond.fieldLink RX3 29 "SignalpostModel" "isWaiting" "[Z" ∈ wsX3_checks := by decide +kernel
theorem fl_X3_checks_26 : Cond.fieldLink RX3 26 "SignalpostModel" "isStopped" "[Z" ∈ wsX3_checks := by decide +kernel
theorem fl_X3_checks_7 : Cond.fieldLink RX3 7 "SignalpostModel" "isThere" "[Z" ∈ wsX3_checks := by decide +kernel
theorem fl_X3_checks_13 : Cond.fieldLink RX3 13 "SignalpostModel" "parent" "[I" ∈ wsX3_checks := by decide +kernel
theorem fl_X3_checks_32 : Cond.fieldLink RX3 32 "SignalpostModel" "awaited" "[I" ∈ wsX3_checks := by decide +kernel
theorem fl_X3_checks_23 : Cond.fieldLink RX3 23 "SignalpostModel" "isZombie" "[Z" ∈ wsX3_checks := by decide +kernel
theorem fl_X3_checks_35 : Cond.fieldLink RX3 35 "SignalpostModel" "forStops" "[Z" ∈ wsX3_checks := by decide +kernel
theorem fl_X3_checks_62 : Cond.fieldLink RX3 62 "SignalpostModel" "isNews" "[Z" ∈ wsX3_checks := by decide +kernel
theorem fl_X3_checks_53 : Cond.fieldLink RX3 53 "SignalpostModel" "how" "[I" ∈ wsX3_checks := by decide +kernel
theorem fl_X3_checks_56 : Cond.fieldLink RX3 56 "SignalpostModel" "value" "[I" ∈ wsX3_checks := by decide +kernel
theorem fl_X3_checks_59 : Cond.fieldLink RX3 59 "SignalpostModel" "stopSignal" "[I" ∈ wsX3_checks := by decide +kernel
theorem in_X3_checks_X3 : ∀ w ∈ u_ws RX3 TX3 29, w ∈ wsX3_checks := by decide +kernel
set_option maxHeartbeats 4000000 in
set_option maxRecDepth 100000 in
theorem c_X3_checks (l : Launch) (D : va_G) {B G : zG} {y : Nat} {ma : Nat → Nat} {r : zS} {p9 : Nat} (hR : zModR B y ma r G) (h00 : r 0 0 = 0) (hp : p9 < 41) : zMet D l yX3_checks wsX3_checks ({ frames := 1, cells := 0, slots := 0, locals := 24 } : Room) [.ref y, .int (nI p9)] G (fun v G9 => v = none ∧ zModR B y ma (zCheck r p9) G9) := by
  refine zMet_of (cc := cX3_checks) (maxL := 6) (ret := none) (by decide) rfl (Nat.le_of_ble_eq_true rfl) ?_
  intro p e s m args below meth c C hmn
  by_cases hid : r 6 p9 = 0 ∨ r 5 p9 ≠ 0
  · skip
    refine zz_aload_n (pc := 0) C dX3_checks_0 rfl ?_
    refine zz_get (pc := 1) C in_X3_checks_X3 (ci := 3) rfl 6 (by decide) (fl_X3_checks_29) rfl dX3_checks_1 hR.2.1 rfl ?_
    refine zz_iload_n (pc := 4) C dX3_checks_4 rfl ?_
    refine zz_mldz (pc := 5) C hR 6 (by decide) rfl dX3_checks_5 rfl (by show _ < 41; omega) ?_
    refine zz_if_eq (pc := 6) C (tgt := 18) dX3_checks_6 (by decide) (fun hc6 => ?_) (fun hc6 => ?_)
    · exact zz_return (pc := 18) C dX3_checks_18 (Nat.le_refl _) (Nat.le_refl _) ⟨rfl, by rw [zCheck_idle hid]; exact hR⟩
    · refine zz_aload_n (pc := 9) C dX3_checks_9 rfl ?_
      refine zz_get (pc := 10) C in_X3_checks_X3 (ci := 3) rfl 5 (by decide) (fl_X3_checks_26) rfl dX3_checks_10 hR.2.1 rfl ?_
      refine zz_iload_n (pc := 13) C dX3_checks_13 rfl ?_
      refine zz_mldz (pc := 14) C hR 5 (by decide) rfl dX3_checks_14 rfl (by show _ < 41; omega) ?_
      refine zz_if_eq (pc := 15) C (tgt := 19) dX3_checks_15 (by decide) (fun hc15 => ?_) (fun hc15 => ?_)
      · exact absurd hid (fun q => q.elim hc6 (fun z => z hc15))
      · exact zz_return (pc := 18) C dX3_checks_18 (Nat.le_refl _) (Nat.le_refl _) ⟨rfl, by rw [zCheck_idle hid]; exact hR⟩
  · skip
    have k210 : ∀ b9 : Int32, (b9 = -1 ∨ ∃ b, b9 = nI b ∧ b < 41 ∧ zRep r p9 b ∧ (∀ k, k < b → ¬ zRep r p9 k) ∧ ¬ r 4 b ≠ 0) → (b9 = -1 → zCheck r p9 = r) → zV p l e ({ frames := 1, cells := 0, slots := 0, locals := 24 } : Room) s m args below meth c D (zA G s.heap.size) 0 0 (zZ below D G (fun v G9 => v = none ∧ zModR B y ma (zCheck r p9) G9) args s ({ frames := 1, cells := 0, slots := 0, locals := 24 } : Room)) G 210 [some (.ref y), some (.int (nI p9)), some (.int b9), some (.int (zb (zHasK r p9 (0)))), some (.int (nI (0))), none] [] := by
      intro b9 hB hw
      rcases hB with rfl | ⟨b, rfl, hb2, hb3, hl, hb4⟩
      · skip
        refine zz_iload_n (pc := 210) C dX3_checks_210 rfl ?_
        refine zz_iconst (pc := 211) C (v := -1) (by decide) dX3_checks_211 ?_
        refine zz_icmp_eq (pc := 212) C (tgt := 235) dX3_checks_212 (by decide) (fun hc212 => ?_) (fun hc212 => ?_)
        · exact zz_return (pc := 235) C dX3_checks_235 (Nat.le_refl _) (Nat.le_refl _) ⟨rfl, by rw [hw rfl]; exact hR⟩
        · exact absurd rfl hc212
      · skip
        refine zz_iload_n (pc := 210) C dX3_checks_210 rfl ?_
        refine zz_iconst (pc := 211) C (v := -1) (by decide) dX3_checks_211 ?_
        refine zz_icmp_eq (pc := 212) C (tgt := 235) dX3_checks_212 (by decide) (fun hc212 => ?_) (fun hc212 => ?_)
        · exact absurd hc212 (znm1 hb2)
        · refine zz_aload_n (pc := 215) C dX3_checks_215 rfl ?_
          refine zz_iload_n (pc := 216) C dX3_checks_216 rfl ?_
          refine zz_iconst (pc := 217) C (v := 2) (by decide) dX3_checks_217 ?_
          refine zz_iload_n (pc := 218) C dX3_checks_218 rfl ?_
          refine zz_aload_n (pc := 219) C dX3_checks_219 rfl ?_
          refine zz_get (pc := 220) C in_X3_checks_X3 (ci := 3) rfl 16 (by decide) (fl_X3_checks_59) rfl dX3_checks_220 hR.2.1 rfl ?_
          refine zz_iload_n (pc := 223) C dX3_checks_223 rfl ?_
          refine zz_mld (pc := 224) C hR 16 (by decide) rfl dX3_checks_224 rfl (by show _ < 41; omega) ?_
          refine zz_callV (pc := 225) C (c_X3_ends l D hR (k := p9) (a := 2) (b := nI b) (d := r 16 b) hp) gX3_checks_X3_ends rfl 4 (by decide +kernel) ⟨Nat.le_of_ble_eq_true rfl, Nat.le_of_ble_eq_true rfl⟩ hR.2.1 (ci := 3) rfl rfl rfl dX3_checks_225 rfl (Nat.le_of_ble_eq_true rfl) rfl ⟨Nat.le_of_ble_eq_true rfl, Nat.le_of_ble_eq_true rfl⟩ ?_
          rintro v G9 ⟨rfl, hR⟩
          refine zz_aload_n (pc := 228) C dX3_checks_228 rfl ?_
          refine zz_get (pc := 229) C in_X3_checks_X3 (ci := 3) rfl 17 (by decide) (fl_X3_checks_62) rfl dX3_checks_229 hR.2.1 rfl ?_
          refine zz_iload_n (pc := 232) C dX3_checks_232 rfl ?_
          refine zz_iconst (pc := 233) C (v := 0) (by decide) dX3_checks_233 ?_
          refine zz_mstz (pc := 234) C hR 17 (by decide) rfl dX3_checks_234 rfl (by show _ < 41; omega) (by first | rfl | exact zb_vp) (fun G hR => ?_)
          exact zz_return (pc := 235) C dX3_checks_235 (Nat.le_refl _) (Nat.le_refl _) ⟨rfl, by rw [zCheck_stp hid hb2 hb3 hl hb4]; exact hR⟩
    have kEnd : ∀ b9 : Int32, zBestI r p9 0 b9 → zV p l e ({ frames := 1, cells := 0, slots := 0, locals := 24 } : Room) s m args below meth c D (zA G s.heap.size) 0 0 (zZ below D G (fun v G9 => v = none ∧ zModR B y ma (zCheck r p9) G9) args s ({ frames := 1, cells := 0, slots := 0, locals := 24 } : Room)) G 153 [some (.ref y), some (.int (nI p9)), some (.int b9), some (.int (zb (zHasK r p9 (0)))), some (.int (nI (0))), none] [] := by
      intro b9 hB
      refine zz_iload_n (pc := 153) C dX3_checks_153 rfl ?_
      refine zz_if_ne (pc := 154) C (tgt := 168) dX3_checks_154 (by decide) (fun hc154 => ?_) (fun hc154 => ?_)
      · refine zz_iload_n (pc := 168) C dX3_checks_168 rfl ?_
        refine zz_iconst (pc := 169) C (v := -1) (by decide) dX3_checks_169 ?_
        refine zz_icmp_eq (pc := 170) C (tgt := 210) dX3_checks_170 (by decide) (fun hc170 => ?_) (fun hc170 => ?_)
        · first
            | exact k210 _ (Or.inl hc170) (fun _ => zCheck_wait (fun k hk q => (hB.elim (fun z => z.2 k (Nat.pos_of_ne_zero (fun e9 => by subst e9; exact q.1.1 h00)) hk q) (fun ⟨b, z1, z2, z3, _⟩ => absurd (z1.symm.trans hc170) (znm1 z3)))) (fun z => zb_ne.mp hc154 (fun k hk _ => z k hk)))
            | exact k210 _ (Or.inr ⟨b, rfl, hb2, hb3, hl, fun q => q hc179⟩) (fun q => absurd q (znm1 hb2))
        · obtain ⟨b, rfl, hb1, hb2, hb3, hb4⟩ := hB.resolve_left (fun q => hc170 q.1)
          have hl : ∀ k, k < b → ¬ zRep r p9 k := fun k hk q => by
            by_cases hk0 : k = 0
            · subst hk0; exact q.1.1 h00
            · exact hb4 k (by omega) hk q
          refine zz_aload_n (pc := 173) C dX3_checks_173 rfl ?_
          refine zz_get (pc := 174) C in_X3_checks_X3 (ci := 3) rfl 4 (by decide) (fl_X3_checks_23) rfl dX3_checks_174 hR.2.1 rfl ?_
          refine zz_iload_n (pc := 177) C dX3_checks_177 rfl ?_
          refine zz_mldz (pc := 178) C hR 4 (by decide) rfl dX3_checks_178 rfl (by show _ < 41; omega) ?_
          refine zz_if_eq (pc := 179) C (tgt := 210) dX3_checks_179 (by decide) (fun hc179 => ?_) (fun hc179 => ?_)
          · first
              | exact k210 _ (Or.inl hc170) (fun _ => zCheck_wait (fun k hk q => (hB.elim (fun z => z.2 k (Nat.pos_of_ne_zero (fun e9 => by subst e9; exact q.1.1 h00)) hk q) (fun ⟨b, z1, z2, z3, _⟩ => absurd (z1.symm.trans hc170) (znm1 z3)))) (fun z => zb_ne.mp hc154 (fun k hk _ => z k hk)))
              | exact k210 _ (Or.inr ⟨b, rfl, hb2, hb3, hl, fun q => q hc179⟩) (fun q => absurd q (znm1 hb2))
          · refine zz_aload_n (pc := 182) C dX3_checks_182 rfl ?_
            refine zz_iload_n (pc := 183) C dX3_checks_183 rfl ?_
            refine zz_aload_n (pc := 184) C dX3_checks_184 rfl ?_
            refine zz_get (pc := 185) C in_X3_checks_X3 (ci := 3) rfl 14 (by decide) (fl_X3_checks_53) rfl dX3_checks_185 hR.2.1 rfl ?_
            refine zz_iload_n (pc := 188) C dX3_checks_188 rfl ?_
            refine zz_mld (pc := 189) C hR 14 (by decide) rfl dX3_checks_189 rfl (by show _ < 41; omega) ?_
            refine zz_iload_n (pc := 190) C dX3_checks_190 rfl ?_
            refine zz_aload_n (pc := 191) C dX3_checks_191 rfl ?_
            refine zz_get (pc := 192) C in_X3_checks_X3 (ci := 3) rfl 15 (by decide) (fl_X3_checks_56) rfl dX3_checks_192 hR.2.1 rfl ?_
            refine zz_iload_n (pc := 195) C dX3_checks_195 rfl ?_
            refine zz_mld (pc := 196) C hR 15 (by decide) rfl dX3_checks_196 rfl (by show _ < 41; omega) ?_
            refine zz_callV (pc := 197) C (c_X3_ends l D hR (k := p9) (a := r 14 b) (b := nI b) (d := r 15 b) hp) gX3_checks_X3_ends rfl 4 (by decide +kernel) ⟨Nat.le_of_ble_eq_true rfl, Nat.le_of_ble_eq_true rfl⟩ hR.2.1 (ci := 3) rfl rfl rfl dX3_checks_197 rfl (Nat.le_of_ble_eq_true rfl) rfl ⟨Nat.le_of_ble_eq_true rfl, Nat.le_of_ble_eq_true rfl⟩ ?_
            rintro v G9 ⟨rfl, hR⟩
            refine zz_aload_n (pc := 200) C dX3_checks_200 rfl ?_
            refine zz_get (pc := 201) C in_X3_checks_X3 (ci := 3) rfl 0 (by decide) (fl_X3_checks_7) rfl dX3_checks_201 hR.2.1 rfl ?_
            refine zz_iload_n (pc := 204) C dX3_checks_204 rfl ?_
            refine zz_iconst (pc := 205) C (v := 0) (by decide) dX3_checks_205 ?_
            refine zz_mstz (pc := 206) C hR 0 (by decide) rfl dX3_checks_206 rfl (by show _ < 41; omega) (by first | rfl | exact zb_vp) (fun G hR => ?_)
            refine zz_goto (pc := 207) C (tgt := 235) dX3_checks_207 (by decide) ?_
            first
              | exact zz_return (pc := 235) C dX3_checks_235 (Nat.le_refl _) (Nat.le_refl _) ⟨rfl, by rw [zCheck_none hid (fun k hk q => zb_eq.mp (Classical.not_not.mp hc154) (fun z => z k hk (Nat.pos_of_ne_zero (fun e9 => by subst e9; exact q.1 h00)) q))]; exact hR⟩
              | exact zz_return (pc := 235) C dX3_checks_235 (Nat.le_refl _) (Nat.le_refl _) ⟨rfl, by rw [zCheck_zom hid hb2 hb3 hl hc179]; exact hR⟩
              | exact zz_return (pc := 235) C dX3_checks_235 (Nat.le_refl _) (Nat.le_refl _) ⟨rfl, by rw [zCheck_stp hid hb2 hb3 hl (fun q => q hc179)]; exact hR⟩
              | exact zz_return (pc := 235) C dX3_checks_235 (Nat.le_refl _) (Nat.le_refl _) ⟨rfl, by rw [zCheck_wait (fun k hk q => (hB.elim (fun z => z.2 k (Nat.pos_of_ne_zero (fun e9 => by subst e9; exact q.1.1 h00)) hk q) (fun ⟨b, z1, z2, z3, _⟩ => absurd (z1.symm.trans hc170) (znm1 z3)))) (fun z => zb_ne.mp hc154 (fun k hk _ => z k hk))]; exact hR⟩
      · refine zz_aload_n (pc := 157) C dX3_checks_157 rfl ?_
        refine zz_iload_n (pc := 158) C dX3_checks_158 rfl ?_
        refine zz_iconst (pc := 159) C (v := 4) (by decide) dX3_checks_159 ?_
        refine zz_iconst (pc := 160) C (v := -1) (by decide) dX3_checks_160 ?_
        refine zz_iconst (pc := 161) C (v := -1) (by decide) dX3_checks_161 ?_
        refine zz_callV (pc := 162) C (c_X3_ends l D hR (k := p9) (a := 4) (b := -1) (d := -1) hp) gX3_checks_X3_ends rfl 4 (by decide +kernel) ⟨Nat.le_of_ble_eq_true rfl, Nat.le_of_ble_eq_true rfl⟩ hR.2.1 (ci := 3) rfl rfl rfl dX3_checks_162 rfl (Nat.le_of_ble_eq_true rfl) rfl ⟨Nat.le_of_ble_eq_true rfl, Nat.le_of_ble_eq_true rfl⟩ ?_
        rintro v G9 ⟨rfl, hR⟩
        refine zz_goto (pc := 165) C (tgt := 235) dX3_checks_165 (by decide) ?_
        first
          | exact zz_return (pc := 235) C dX3_checks_235 (Nat.le_refl _) (Nat.le_refl _) ⟨rfl, by rw [zCheck_none hid (fun k hk q => zb_eq.mp (Classical.not_not.mp hc154) (fun z => z k hk (Nat.pos_of_ne_zero (fun e9 => by subst e9; exact q.1 h00)) q))]; exact hR⟩
          | exact zz_return (pc := 235) C dX3_checks_235 (Nat.le_refl _) (Nat.le_refl _) ⟨rfl, by rw [zCheck_zom hid hb2 hb3 hl hc179]; exact hR⟩
          | exact zz_return (pc := 235) C dX3_checks_235 (Nat.le_refl _) (Nat.le_refl _) ⟨rfl, by rw [zCheck_stp hid hb2 hb3 hl (fun q => q hc179)]; exact hR⟩
          | exact zz_return (pc := 235) C dX3_checks_235 (Nat.le_refl _) (Nat.le_refl _) ⟨rfl, by rw [zCheck_wait (fun k hk q => (hB.elim (fun z => z.2 k (Nat.pos_of_ne_zero (fun e9 => by subst e9; exact q.1.1 h00)) hk q) (fun ⟨b, z1, z2, z3, _⟩ => absurd (z1.symm.trans hc170) (znm1 z3)))) (fun z => zb_ne.mp hc154 (fun k hk _ => z k hk))]; exact hR⟩
    have kL : ∀ (n : Nat) (b9 : Int32), n ≤ 40 → zBestI r p9 n b9 → zV p l e ({ frames := 1, cells := 0, slots := 0, locals := 24 } : Room) s m args below meth c D (zA G s.heap.size) 0 0 (zZ below D G (fun v G9 => v = none ∧ zModR B y ma (zCheck r p9) G9) args s ({ frames := 1, cells := 0, slots := 0, locals := 24 } : Room)) G 27 [some (.ref y), some (.int (nI p9)), some (.int b9), some (.int (zb (zHasK r p9 (n)))), some (.int (nI (n))), none] [] := by
      intro n
      induction n with
      | zero =>
        intro b9 hn hB
        refine zz_iload (pc := 27) C dX3_checks_27 rfl ?_
        refine zz_if_le (pc := 29) C (tgt := 153) dX3_checks_29 (by decide) (fun hc29 => ?_) (fun hc29 => ?_)
        · exact kEnd _ hB
        · exact absurd (show nI 0 ≤ 0 from by decide) hc29
      | succ n ih =>
        intro b9 hn hB
        have k146 : ∀ x : Int32, zBestI r p9 n x → zV p l e ({ frames := 1, cells := 0, slots := 0, locals := 24 } : Room) s m args below meth c D (zA G s.heap.size) 0 0 (zZ below D G (fun v G9 => v = none ∧ zModR B y ma (zCheck r p9) G9) args s ({ frames := 1, cells := 0, slots := 0, locals := 24 } : Room)) G 146 [some (.ref y), some (.int (nI p9)), some (.int b9), some (.int (zb (zHasK r p9 (n)))), some (.int (nI (n + 1))), some (.int (zb (zKid r p9 (n + 1))))] [.int x] := by
          intro x hB2
          refine zz_istore_n (pc := 146) C dX3_checks_146 (Nat.le_of_ble_eq_true rfl) ?_
          refine zz_iinc (pc := 147) C dX3_checks_147 rfl ?_
          refine zz_goto (pc := 150) C (tgt := 27) dX3_checks_150 (by decide) ?_
          exact zV.less (L' := [some (.ref y), some (.int (nI p9)), some (.int x), some (.int (zb (zHasK r p9 (n)))), some (.int (nI (n))), none]) ⟨rfl, rfl, rfl, rfl, zvi (zm1 n), trivial⟩ (ih x (by omega) hB2)
        have k95 : ∀ x : Int32, x = zb (zHasK r p9 n) → zV p l e ({ frames := 1, cells := 0, slots := 0, locals := 24 } : Room) s m args below meth c D (zA G s.heap.size) 0 0 (zZ below D G (fun v G9 => v = none ∧ zModR B y ma (zCheck r p9) G9) args s ({ frames := 1, cells := 0, slots := 0, locals := 24 } : Room)) G 95 [some (.ref y), some (.int (nI p9)), some (.int b9), some (.int (zb (zHasK r p9 (n + 1)))), some (.int (nI (n + 1))), some (.int (zb (zKid r p9 (n + 1))))] [.int x] := by
          intro x hx
          subst hx
          refine zz_istore_n (pc := 95) C dX3_checks_95 (Nat.le_of_ble_eq_true rfl) ?_
          refine zz_iload (pc := 96) C dX3_checks_96 rfl ?_
          refine zz_if_eq (pc := 98) C (tgt := 145) dX3_checks_98 (by decide) (fun hc98 => ?_) (fun hc98 => ?_)
          · refine zz_iload_n (pc := 145) C dX3_checks_145 rfl ?_
            first
              | exact k146 _ (zBestI_no hB (fun q => zb_eq.mp hc98 q.1))
              | exact k146 _ (zBestI_yes (by omega) ⟨zb_ne.mp hc98, Or.inl hc108⟩)
              | exact k146 _ (zBestI_no hB (fun q => q.2.elim hc108 (fun z => z.1 hc117)))
              | exact k146 _ (zBestI_no hB (fun q => q.2.elim hc108 (fun z => z.2.1 hc127)))
              | exact k146 _ (zBestI_no hB (fun q => q.2.elim hc108 (fun z => z.2.2 hc137)))
              | exact k146 _ (zBestI_yes (by omega) ⟨zb_ne.mp hc98, Or.inr ⟨hc117, hc127, hc137⟩⟩)
          · refine zz_aload_n (pc := 101) C dX3_checks_101 rfl ?_
            refine zz_get (pc := 102) C in_X3_checks_X3 (ci := 3) rfl 4 (by decide) (fl_X3_checks_23) rfl dX3_checks_102 hR.2.1 rfl ?_
            refine zz_iload (pc := 105) C dX3_checks_105 rfl ?_
            refine zz_mldz (pc := 107) C hR 4 (by decide) rfl dX3_checks_107 rfl (by show _ < 41; omega) ?_
            refine zz_if_ne (pc := 108) C (tgt := 140) dX3_checks_108 (by decide) (fun hc108 => ?_) (fun hc108 => ?_)
            · refine zz_iload (pc := 140) C dX3_checks_140 rfl ?_
              refine zz_goto (pc := 142) C (tgt := 146) dX3_checks_142 (by decide) ?_
              first
                | exact k146 _ (zBestI_no hB (fun q => zb_eq.mp hc98 q.1))
                | exact k146 _ (zBestI_yes (by omega) ⟨zb_ne.mp hc98, Or.inl hc108⟩)
                | exact k146 _ (zBestI_no hB (fun q => q.2.elim hc108 (fun z => z.1 hc117)))
                | exact k146 _ (zBestI_no hB (fun q => q.2.elim hc108 (fun z => z.2.1 hc127)))
                | exact k146 _ (zBestI_no hB (fun q => q.2.elim hc108 (fun z => z.2.2 hc137)))
                | exact k146 _ (zBestI_yes (by omega) ⟨zb_ne.mp hc98, Or.inr ⟨hc117, hc127, hc137⟩⟩)
            · refine zz_aload_n (pc := 111) C dX3_checks_111 rfl ?_
              refine zz_get (pc := 112) C in_X3_checks_X3 (ci := 3) rfl 8 (by decide) (fl_X3_checks_35) rfl dX3_checks_112 hR.2.1 rfl ?_
              refine zz_iload_n (pc := 115) C dX3_checks_115 rfl ?_
              refine zz_mldz (pc := 116) C hR 8 (by decide) rfl dX3_checks_116 rfl (by show _ < 41; omega) ?_
              refine zz_if_eq (pc := 117) C (tgt := 145) dX3_checks_117 (by decide) (fun hc117 => ?_) (fun hc117 => ?_)
              · refine zz_iload_n (pc := 145) C dX3_checks_145 rfl ?_
                first
                  | exact k146 _ (zBestI_no hB (fun q => zb_eq.mp hc98 q.1))
                  | exact k146 _ (zBestI_yes (by omega) ⟨zb_ne.mp hc98, Or.inl hc108⟩)
                  | exact k146 _ (zBestI_no hB (fun q => q.2.elim hc108 (fun z => z.1 hc117)))
                  | exact k146 _ (zBestI_no hB (fun q => q.2.elim hc108 (fun z => z.2.1 hc127)))
                  | exact k146 _ (zBestI_no hB (fun q => q.2.elim hc108 (fun z => z.2.2 hc137)))
                  | exact k146 _ (zBestI_yes (by omega) ⟨zb_ne.mp hc98, Or.inr ⟨hc117, hc127, hc137⟩⟩)
              · refine zz_aload_n (pc := 120) C dX3_checks_120 rfl ?_
                refine zz_get (pc := 121) C in_X3_checks_X3 (ci := 3) rfl 5 (by decide) (fl_X3_checks_26) rfl dX3_checks_121 hR.2.1 rfl ?_
                refine zz_iload (pc := 124) C dX3_checks_124 rfl ?_
                refine zz_mldz (pc := 126) C hR 5 (by decide) rfl dX3_checks_126 rfl (by show _ < 41; omega) ?_
                refine zz_if_eq (pc := 127) C (tgt := 145) dX3_checks_127 (by decide) (fun hc127 => ?_) (fun hc127 => ?_)
                · refine zz_iload_n (pc := 145) C dX3_checks_145 rfl ?_
                  first
                    | exact k146 _ (zBestI_no hB (fun q => zb_eq.mp hc98 q.1))
                    | exact k146 _ (zBestI_yes (by omega) ⟨zb_ne.mp hc98, Or.inl hc108⟩)
                    | exact k146 _ (zBestI_no hB (fun q => q.2.elim hc108 (fun z => z.1 hc117)))
                    | exact k146 _ (zBestI_no hB (fun q => q.2.elim hc108 (fun z => z.2.1 hc127)))
                    | exact k146 _ (zBestI_no hB (fun q => q.2.elim hc108 (fun z => z.2.2 hc137)))
                    | exact k146 _ (zBestI_yes (by omega) ⟨zb_ne.mp hc98, Or.inr ⟨hc117, hc127, hc137⟩⟩)
                · refine zz_aload_n (pc := 130) C dX3_checks_130 rfl ?_
                  refine zz_get (pc := 131) C in_X3_checks_X3 (ci := 3) rfl 17 (by decide) (fl_X3_checks_62) rfl dX3_checks_131 hR.2.1 rfl ?_
                  refine zz_iload (pc := 134) C dX3_checks_134 rfl ?_
                  refine zz_mldz (pc := 136) C hR 17 (by decide) rfl dX3_checks_136 rfl (by show _ < 41; omega) ?_
                  refine zz_if_eq (pc := 137) C (tgt := 145) dX3_checks_137 (by decide) (fun hc137 => ?_) (fun hc137 => ?_)
                  · refine zz_iload_n (pc := 145) C dX3_checks_145 rfl ?_
                    first
                      | exact k146 _ (zBestI_no hB (fun q => zb_eq.mp hc98 q.1))
                      | exact k146 _ (zBestI_yes (by omega) ⟨zb_ne.mp hc98, Or.inl hc108⟩)
                      | exact k146 _ (zBestI_no hB (fun q => q.2.elim hc108 (fun z => z.1 hc117)))
                      | exact k146 _ (zBestI_no hB (fun q => q.2.elim hc108 (fun z => z.2.1 hc127)))
                      | exact k146 _ (zBestI_no hB (fun q => q.2.elim hc108 (fun z => z.2.2 hc137)))
                      | exact k146 _ (zBestI_yes (by omega) ⟨zb_ne.mp hc98, Or.inr ⟨hc117, hc127, hc137⟩⟩)
                  · refine zz_iload (pc := 140) C dX3_checks_140 rfl ?_
                    refine zz_goto (pc := 142) C (tgt := 146) dX3_checks_142 (by decide) ?_
                    first
                      | exact k146 _ (zBestI_no hB (fun q => zb_eq.mp hc98 q.1))
                      | exact k146 _ (zBestI_yes (by omega) ⟨zb_ne.mp hc98, Or.inl hc108⟩)
                      | exact k146 _ (zBestI_no hB (fun q => q.2.elim hc108 (fun z => z.1 hc117)))
                      | exact k146 _ (zBestI_no hB (fun q => q.2.elim hc108 (fun z => z.2.1 hc127)))
                      | exact k146 _ (zBestI_no hB (fun q => q.2.elim hc108 (fun z => z.2.2 hc137)))
                      | exact k146 _ (zBestI_yes (by omega) ⟨zb_ne.mp hc98, Or.inr ⟨hc117, hc127, hc137⟩⟩)
        have k79 : ∀ x : Int32, x = zb (zKid r p9 (n + 1)) → zV p l e ({ frames := 1, cells := 0, slots := 0, locals := 24 } : Room) s m args below meth c D (zA G s.heap.size) 0 0 (zZ below D G (fun v G9 => v = none ∧ zModR B y ma (zCheck r p9) G9) args s ({ frames := 1, cells := 0, slots := 0, locals := 24 } : Room)) G 79 [some (.ref y), some (.int (nI p9)), some (.int b9), some (.int (zb (zHasK r p9 (n + 1)))), some (.int (nI (n + 1))), none] [.int x] := by
          intro x hx
          subst hx
          refine zz_istore (pc := 79) C dX3_checks_79 (Nat.le_of_ble_eq_true rfl) ?_
          refine zz_iload_n (pc := 81) C dX3_checks_81 rfl ?_
          refine zz_if_ne (pc := 82) C (tgt := 90) dX3_checks_82 (by decide) (fun hc82 => ?_) (fun hc82 => ?_)
          · refine zz_iconst (pc := 90) C (v := 1) (by decide) dX3_checks_90 ?_
            refine zz_goto (pc := 91) C (tgt := 95) dX3_checks_91 (by decide) ?_
            first
              | exact k95 _ (z1b ((zHasK_step (by omega)).mpr (Or.inl (zb_ne.mp hc82))))
              | exact k95 _ (z0b (fun q => ((zHasK_step (by omega)).mp q).elim (fun z => hc82 (zb_ne.mpr z)) (fun z => zb_eq.mp hc87 z)))
              | exact k95 _ (z1b ((zHasK_step (by omega)).mpr (Or.inr (zb_ne.mp hc87))))
          · refine zz_iload (pc := 85) C dX3_checks_85 rfl ?_
            refine zz_if_eq (pc := 87) C (tgt := 94) dX3_checks_87 (by decide) (fun hc87 => ?_) (fun hc87 => ?_)
            · refine zz_iconst (pc := 94) C (v := 0) (by decide) dX3_checks_94 ?_
              first
                | exact k95 _ (z1b ((zHasK_step (by omega)).mpr (Or.inl (zb_ne.mp hc82))))
                | exact k95 _ (z0b (fun q => ((zHasK_step (by omega)).mp q).elim (fun z => hc82 (zb_ne.mpr z)) (fun z => zb_eq.mp hc87 z)))
                | exact k95 _ (z1b ((zHasK_step (by omega)).mpr (Or.inr (zb_ne.mp hc87))))
            · refine zz_iconst (pc := 90) C (v := 1) (by decide) dX3_checks_90 ?_
              refine zz_goto (pc := 91) C (tgt := 95) dX3_checks_91 (by decide) ?_
              first
                | exact k95 _ (z1b ((zHasK_step (by omega)).mpr (Or.inl (zb_ne.mp hc82))))
                | exact k95 _ (z0b (fun q => ((zHasK_step (by omega)).mp q).elim (fun z => hc82 (zb_ne.mpr z)) (fun z => zb_eq.mp hc87 z)))
                | exact k95 _ (z1b ((zHasK_step (by omega)).mpr (Or.inr (zb_ne.mp hc87))))
        refine zz_iload (pc := 27) C dX3_checks_27 rfl ?_
        refine zz_if_le (pc := 29) C (tgt := 153) dX3_checks_29 (by decide) (fun hc29 => ?_) (fun hc29 => ?_)
        · exact absurd hc29 (nI_nle (n := n + 1) (by omega) (by omega))
        · refine zz_aload_n (pc := 32) C dX3_checks_32 rfl ?_
          refine zz_get (pc := 33) C in_X3_checks_X3 (ci := 3) rfl 0 (by decide) (fl_X3_checks_7) rfl dX3_checks_33 hR.2.1 rfl ?_
          refine zz_iload (pc := 36) C dX3_checks_36 rfl ?_
          refine zz_mldz (pc := 38) C hR 0 (by decide) rfl dX3_checks_38 rfl (by show _ < 41; omega) ?_
          refine zz_if_eq (pc := 39) C (tgt := 78) dX3_checks_39 (by decide) (fun hc39 => ?_) (fun hc39 => ?_)
          · refine zz_iconst (pc := 78) C (v := 0) (by decide) dX3_checks_78 ?_
            first
              | exact k79 _ (z0b (fun q => q.1 hc39))
              | exact k79 _ (z0b (fun q => hc50 q.2.1))
              | exact k79 _ (z1b ⟨hc39, Classical.not_not.mp hc50, Or.inl hc60⟩)
              | exact k79 _ (z0b (fun q => q.2.2.elim hc60 hc71))
              | exact k79 _ (z1b ⟨hc39, Classical.not_not.mp hc50, Or.inr (Classical.not_not.mp hc71)⟩)
          · refine zz_aload_n (pc := 42) C dX3_checks_42 rfl ?_
            refine zz_get (pc := 43) C in_X3_checks_X3 (ci := 3) rfl 1 (by decide) (fl_X3_checks_13) rfl dX3_checks_43 hR.2.1 rfl ?_
            refine zz_iload (pc := 46) C dX3_checks_46 rfl ?_
            refine zz_mld (pc := 48) C hR 1 (by decide) rfl dX3_checks_48 rfl (by show _ < 41; omega) ?_
            refine zz_iload_n (pc := 49) C dX3_checks_49 rfl ?_
            refine zz_icmp_ne (pc := 50) C (tgt := 78) dX3_checks_50 (by decide) (fun hc50 => ?_) (fun hc50 => ?_)
            · refine zz_iconst (pc := 78) C (v := 0) (by decide) dX3_checks_78 ?_
              first
                | exact k79 _ (z0b (fun q => q.1 hc39))
                | exact k79 _ (z0b (fun q => hc50 q.2.1))
                | exact k79 _ (z1b ⟨hc39, Classical.not_not.mp hc50, Or.inl hc60⟩)
                | exact k79 _ (z0b (fun q => q.2.2.elim hc60 hc71))
                | exact k79 _ (z1b ⟨hc39, Classical.not_not.mp hc50, Or.inr (Classical.not_not.mp hc71)⟩)
            · refine zz_aload_n (pc := 53) C dX3_checks_53 rfl ?_
              refine zz_get (pc := 54) C in_X3_checks_X3 (ci := 3) rfl 7 (by decide) (fl_X3_checks_32) rfl dX3_checks_54 hR.2.1 rfl ?_
              refine zz_iload_n (pc := 57) C dX3_checks_57 rfl ?_
              refine zz_mld (pc := 58) C hR 7 (by decide) rfl dX3_checks_58 rfl (by show _ < 41; omega) ?_
              refine zz_iconst (pc := 59) C (v := -1) (by decide) dX3_checks_59 ?_
              refine zz_icmp_eq (pc := 60) C (tgt := 74) dX3_checks_60 (by decide) (fun hc60 => ?_) (fun hc60 => ?_)
              · refine zz_iconst (pc := 74) C (v := 1) (by decide) dX3_checks_74 ?_
                refine zz_goto (pc := 75) C (tgt := 79) dX3_checks_75 (by decide) ?_
                first
                  | exact k79 _ (z0b (fun q => q.1 hc39))
                  | exact k79 _ (z0b (fun q => hc50 q.2.1))
                  | exact k79 _ (z1b ⟨hc39, Classical.not_not.mp hc50, Or.inl hc60⟩)
                  | exact k79 _ (z0b (fun q => q.2.2.elim hc60 hc71))
                  | exact k79 _ (z1b ⟨hc39, Classical.not_not.mp hc50, Or.inr (Classical.not_not.mp hc71)⟩)
              · refine zz_aload_n (pc := 63) C dX3_checks_63 rfl ?_
                refine zz_get (pc := 64) C in_X3_checks_X3 (ci := 3) rfl 7 (by decide) (fl_X3_checks_32) rfl dX3_checks_64 hR.2.1 rfl ?_
                refine zz_iload_n (pc := 67) C dX3_checks_67 rfl ?_
                refine zz_mld (pc := 68) C hR 7 (by decide) rfl dX3_checks_68 rfl (by show _ < 41; omega) ?_
                refine zz_iload (pc := 69) C dX3_checks_69 rfl ?_
                refine zz_icmp_ne (pc := 71) C (tgt := 78) dX3_checks_71 (by decide) (fun hc71 => ?_) (fun hc71 => ?_)
                · refine zz_iconst (pc := 78) C (v := 0) (by decide) dX3_checks_78 ?_
                  first
                    | exact k79 _ (z0b (fun q => q.1 hc39))
                    | exact k79 _ (z0b (fun q => hc50 q.2.1))
                    | exact k79 _ (z1b ⟨hc39, Classical.not_not.mp hc50, Or.inl hc60⟩)
                    | exact k79 _ (z0b (fun q => q.2.2.elim hc60 hc71))
                    | exact k79 _ (z1b ⟨hc39, Classical.not_not.mp hc50, Or.inr (Classical.not_not.mp hc71)⟩)
                · refine zz_iconst (pc := 74) C (v := 1) (by decide) dX3_checks_74 ?_
                  refine zz_goto (pc := 75) C (tgt := 79) dX3_checks_75 (by decide) ?_
                  first
                    | exact k79 _ (z0b (fun q => q.1 hc39))
                    | exact k79 _ (z0b (fun q => hc50 q.2.1))
                    | exact k79 _ (z1b ⟨hc39, Classical.not_not.mp hc50, Or.inl hc60⟩)
                    | exact k79 _ (z0b (fun q => q.2.2.elim hc60 hc71))
                    | exact k79 _ (z1b ⟨hc39, Classical.not_not.mp hc50, Or.inr (Classical.not_not.mp hc71)⟩)
    refine zz_aload_n (pc := 0) C dX3_checks_0 rfl ?_
    refine zz_get (pc := 1) C in_X3_checks_X3 (ci := 3) rfl 6 (by decide) (fl_X3_checks_29) rfl dX3_checks_1 hR.2.1 rfl ?_
    refine zz_iload_n (pc := 4) C dX3_checks_4 rfl ?_
    refine zz_mldz (pc := 5) C hR 6 (by decide) rfl dX3_checks_5 rfl (by show _ < 41; omega) ?_
    refine zz_if_eq (pc := 6) C (tgt := 18) dX3_checks_6 (by decide) (fun hc6 => ?_) (fun hc6 => ?_)
    · exact absurd (Or.inl hc6) hid
    · refine zz_aload_n (pc := 9) C dX3_checks_9 rfl ?_
      refine zz_get (pc := 10) C in_X3_checks_X3 (ci := 3) rfl 5 (by decide) (fl_X3_checks_26) rfl dX3_checks_10 hR.2.1 rfl ?_
      refine zz_iload_n (pc := 13) C dX3_checks_13 rfl ?_
      refine zz_mldz (pc := 14) C hR 5 (by decide) rfl dX3_checks_14 rfl (by show _ < 41; omega) ?_
      refine zz_if_eq (pc := 15) C (tgt := 19) dX3_checks_15 (by decide) (fun hc15 => ?_) (fun hc15 => ?_)
      · refine zz_iconst (pc := 19) C (v := -1) (by decide) dX3_checks_19 ?_
        refine zz_istore_n (pc := 20) C dX3_checks_20 (Nat.le_of_ble_eq_true rfl) ?_
        refine zz_iconst (pc := 21) C (v := 0) (by decide) dX3_checks_21 ?_
        refine zz_istore_n (pc := 22) C dX3_checks_22 (Nat.le_of_ble_eq_true rfl) ?_
        refine zz_bipush (pc := 23) C (v := 40) (by decide) dX3_checks_23 ?_
        refine zz_istore (pc := 25) C dX3_checks_25 (Nat.le_of_ble_eq_true rfl) ?_
        exact zV.less (L' := [some (.ref y), some (.int (nI p9)), some (.int (-1)), some (.int (zb (zHasK r p9 (40)))), some (.int (nI (40))), none]) ⟨rfl, rfl, rfl, zvf (fun q => q (fun k h1 h2 => absurd h1 (by omega))), rfl, trivial⟩ (kL 40 (-1) (Nat.le_refl _) (Or.inl ⟨rfl, fun k h1 h2 => absurd h1 (by omega)⟩))
      · exact absurd (Or.inr hc15) hid
