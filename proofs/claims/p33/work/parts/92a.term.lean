/-! the law's method around the terminal -/
theorem zM4 {a n : Nat} (ha : a < 4) (hn : n < 4) (h : nI a = nI n) : a = n := (nI_eq (by omega) (by omega)).mp h
theorem zM4le {a : Nat} (h : 2 ≤ a) (ha : a < 4) : (2 : Int32) ≤ nI a := (nI_leI (a := 2) (b := a) (by decide) (by omega)).mpr h
theorem zM4nl {a : Nat} (h : a < 2) : ¬ (2 : Int32) ≤ nI a := fun z => by
  have := (nI_leI (a := 2) (b := a) (by decide) (by omega)).mp z
  omega
theorem zIsT {σ : zS} (h : zIv 0 σ []) (ht : σ 21 0 ≠ -1) : ∃ t, σ 21 0 = nI t ∧ 1 ≤ t ∧ t < 41 := by
  rcases h.2.2.2.2.2.2.1 with z | ⟨t, t1, t2, t3, t4, t5⟩
  · exact absurd z.1 ht
  · exact ⟨t, t1, h.wf.in t2⟩
theorem q_session3 (l : Launch) (D : va_G) {B G : zG} {x tb ev : Nat} {A : Nat → Nat} {σ : zS} {q : List zEv} {h m0 : Nat} {k : Nat} (hC : zCl B x tb ev A σ q h m0 G) (h1 : 1 ≤ k) (hk : k < 41) (h0 : σ 0 k ≠ 0) : zMet D l yX2_session wsX2_session ({ frames := 2, cells := 0, slots := 0, locals := 70 } : Room) [.ref x, .int (nI k)] G (fun v G9 => v = some (.int (σ 3 k)) ∧ G9 = G) := q_session l D hC h1 hk h0
set_option maxHeartbeats 4000000 in
set_option maxRecDepth 100000 in
theorem c_L_isTerminal_oy (l : Launch) (hl : l.stackTraces = false) (D : va_G) {B G : zG} {x tb ev : Nat} {A : Nat → Nat} {σ : zS} {m0 : Nat} (hC : zCl B x tb ev A σ [] 0 m0 G) {k9 a9 b9 : Nat} (hI : zIv 0 σ []) (h1 : 1 ≤ k9) (hk : k9 < 41) (h0 : σ 0 k9 ≠ 0) (ha : a9 < 5000) (hb : b9 < 6000) (hm : a9 % 4 < 2) (hc9 : ¬ zNot σ k9 ∧ σ 3 k9 = nI k9 ∧ σ 21 0 = -1) : zxMet D l yL_isTerminal wsL_isTerminal ({ frames := 12, cells := 20, slots := 120, locals := 340 } : Room) [.ref x, .int (nI k9), .int (nI a9), .int (nI b9)] G (fun v G9 => v = some (.int 1) ∧ zLq B x (zu (zu σ 21 0 (nI k9)) 22 0 (σ 2 k9)) m0 G9) (fun _ => False) := by
  refine zxMet_of (cc := cL_isTerminal) (maxL := 10) (ret := (some .boolean)) (by decide) rfl (Nat.le_of_ble_eq_true rfl) ?_
  intro p e s m args below meth c C hnx h8
  have hW := hI.wf
  have hTH : zE2 (¬ zHere σ (nI k9)) (zNot σ (pn (nI k9)) ∨ σ 3 (pn (nI k9)) ≠ nI k9 ∨ σ 21 0 ≠ -1) = 0 := zE2_0 (fun z => z (zHere_n h1 hk h0)) (by rw [pnn hk]; exact fun z => z.elim hc9.1 (fun z => z.elim (fun y => y hc9.2.1) (fun y => y hc9.2.2)))
  have t22 : (zu (zu σ 21 0 (nI k9)) 22 0 (σ 2 k9)) 22 0 = (zu (zu σ 21 0 (nI k9)) 22 0 (σ 2 k9)) 2 k9 := rfl
  have K64 : zV p l e ({ frames := 12, cells := 20, slots := 120, locals := 340 } : Room) s m args below meth c D (zA G s.heap.size) 0 0 (zxZ below D G (fun v G9 => v = some (.int 1) ∧ zLq B x (zu (zu σ 21 0 (nI k9)) 22 0 (σ 2 k9)) m0 G9) (fun _ => False) args s ({ frames := 12, cells := 20, slots := 120, locals := 340 } : Room)) G 64 [some (.ref x), some (.int (nI k9)), some (.int (nI a9)), some (.int (nI b9)), some (.int (zb (¬ zNot σ k9))), some (.int (σ 21 0)), some (.int (σ 22 0)), none, none, none] [.int (zb (¬ zNot σ k9 ∧ σ 3 k9 = nI k9 ∧ σ 21 0 = -1))] := by
    refine zz_istore (pc := 64) C dL_isTerminal_64 (Nat.le_of_ble_eq_true rfl) ?_
    refine zV.less (L' := [some (.ref (x)), some (.int (nI k9)), some (.int (nI a9)), some (.int (nI b9)), some (.int (zb (¬ zNot σ k9))), some (.int (σ 21 0)), some (.int (σ 22 0)), some (.int (zb (¬ zNot σ k9 ∧ σ 3 k9 = nI k9 ∧ σ 21 0 = -1))), none, none]) ⟨rfl, rfl, rfl, rfl, rfl, rfl, rfl, rfl, trivial⟩ ?_
    refine zz_aload_n (pc := 66) C dL_isTerminal_66 rfl ?_
    refine zz_iload_n (pc := 67) C dL_isTerminal_67 rfl ?_
    refine zzx_callSW (pc := 68) C h8 ((c_L_opens l hl D (x9 := nI k9) hC).imp (fun _ _ z => z.elim id (fun z => z.elim (fun y => absurd (hTH.symm.trans y.1) (by decide)) (fun z => absurd (hTH.symm.trans z.1) (by decide)))) (fun _ z => z)) gL_isTerminal_L_opens rfl 2 (by decide +kernel) ⟨Nat.le_of_ble_eq_true rfl, Nat.le_of_ble_eq_true rfl⟩ rfl dL_isTerminal_68 rfl (Nat.le_of_ble_eq_true rfl) rfl ⟨Nat.le_of_ble_eq_true rfl, Nat.le_of_ble_eq_true rfl⟩ (fun E hE => hE.elim) ?_
    rintro v G9 ⟨_, rfl, hC1⟩
    rw [pnn hk] at hC1
    refine zz_iload (pc := 71) C dL_isTerminal_71 rfl ?_
    refine zz_if_eq (pc := 73) C (tgt := 80) dL_isTerminal_73 (by decide) (fun hc73 => ?_) (fun hc73 => ?_)
    · exact False.elim (zb_eq.mp hc73 hc9)
    · refine zz_iconst (pc := 76) C (v := 0) (by decide) dL_isTerminal_76 ?_
      refine zz_goto (pc := 77) C (tgt := 82) dL_isTerminal_77 (by decide) ?_
      refine zz_icmp_ne (pc := 82) C (tgt := 124) dL_isTerminal_82 (by decide) (fun hc82 => ?_) (fun hc82 => ?_)
      · exact absurd rfl hc82
      · refine zz_aload_n (pc := 85) C dL_isTerminal_85 rfl ?_
        refine zz_callV (pc := 86) C (c_X2_terminalSession l D hC1) gL_isTerminal_X2_terminalSession rfl 0 (by decide +kernel) ⟨Nat.le_of_ble_eq_true rfl, Nat.le_of_ble_eq_true rfl⟩ hC1.x (ci := 2) rfl rfl rfl dL_isTerminal_86 rfl (Nat.le_of_ble_eq_true rfl) rfl ⟨Nat.le_of_ble_eq_true rfl, Nat.le_of_ble_eq_true rfl⟩ ?_
        rintro v G9 ⟨rfl, rfl⟩
        refine zz_iload (pc := 89) C dL_isTerminal_89 rfl ?_
        refine zz_if_eq (pc := 91) C (tgt := 98) dL_isTerminal_91 (by decide) (fun hc91 => ?_) (fun hc91 => ?_)
        · exact False.elim (zb_eq.mp hc91 hc9)
        · refine zz_iload_n (pc := 94) C dL_isTerminal_94 rfl ?_
          refine zz_goto (pc := 95) C (tgt := 100) dL_isTerminal_95 (by decide) ?_
          refine zz_icmp_ne (pc := 100) C (tgt := 124) dL_isTerminal_100 (by decide) (fun hc100 => ?_) (fun hc100 => ?_)
          · exact absurd rfl hc100
          · refine zz_iload (pc := 103) C dL_isTerminal_103 rfl ?_
            refine zz_if_eq (pc := 105) C (tgt := 120) dL_isTerminal_105 (by decide) (fun hc105 => ?_) (fun hc105 => ?_)
            · exact False.elim (zb_eq.mp hc105 hc9)
            · refine zz_aload_n (pc := 108) C dL_isTerminal_108 rfl ?_
              refine zz_callV (pc := 109) C (c_X2_foreground l D hC1) gL_isTerminal_X2_foreground rfl 0 (by decide +kernel) ⟨Nat.le_of_ble_eq_true rfl, Nat.le_of_ble_eq_true rfl⟩ hC1.x (ci := 2) rfl rfl rfl dL_isTerminal_109 rfl (Nat.le_of_ble_eq_true rfl) rfl ⟨Nat.le_of_ble_eq_true rfl, Nat.le_of_ble_eq_true rfl⟩ ?_
              rintro v G9 ⟨rfl, rfl⟩
              refine zz_aload_n (pc := 112) C dL_isTerminal_112 rfl ?_
              refine zz_iload_n (pc := 113) C dL_isTerminal_113 rfl ?_
              refine zz_callV (pc := 114) C (q_group l D hC1 h1 hk h0 (k := k9)) gL_isTerminal_X2_group rfl 1 (by decide +kernel) ⟨Nat.le_of_ble_eq_true rfl, Nat.le_of_ble_eq_true rfl⟩ hC1.x (ci := 2) rfl rfl rfl dL_isTerminal_114 rfl (Nat.le_of_ble_eq_true rfl) rfl ⟨Nat.le_of_ble_eq_true rfl, Nat.le_of_ble_eq_true rfl⟩ ?_
              rintro v G9 ⟨rfl, rfl⟩
              refine zz_icmp_ne (pc := 117) C (tgt := 124) dL_isTerminal_117 (by decide) (fun hc117 => ?_) (fun hc117 => ?_)
              · exact absurd rfl hc117
              · refine zz_iconst (pc := 120) C (v := 1) (by decide) dL_isTerminal_120 ?_
                refine zz_goto (pc := 121) C (tgt := 125) dL_isTerminal_121 (by decide) ?_
                exact zzx_ret (zz_ireturn (pc := 125) C dL_isTerminal_125 (by first | rfl | exact zb_nar) (Nat.le_of_ble_eq_true rfl) (Nat.le_of_ble_eq_true rfl) ⟨rfl, ⟨tb, ev, A, hC1⟩⟩)
  have K18 : zV p l e ({ frames := 12, cells := 20, slots := 120, locals := 340 } : Room) s m args below meth c D (zA G s.heap.size) 0 0 (zxZ below D G (fun v G9 => v = some (.int 1) ∧ zLq B x (zu (zu σ 21 0 (nI k9)) 22 0 (σ 2 k9)) m0 G9) (fun _ => False) args s ({ frames := 12, cells := 20, slots := 120, locals := 340 } : Room)) G 18 [some (.ref x), some (.int (nI k9)), some (.int (nI a9)), some (.int (nI b9)), none, none, none, none, none, none] [.int (zb (¬ zNot σ k9))] := by
    refine zz_istore (pc := 18) C dL_isTerminal_18 (Nat.le_of_ble_eq_true rfl) ?_
    refine zV.less (L' := [some (.ref (x)), some (.int (nI k9)), some (.int (nI a9)), some (.int (nI b9)), some (.int (zb (¬ zNot σ k9))), none, none, none, none, none]) ⟨rfl, rfl, rfl, rfl, rfl, trivial⟩ ?_
    refine zz_aload_n (pc := 20) C dL_isTerminal_20 rfl ?_
    refine zz_callV (pc := 21) C (c_X2_terminalSession l D hC) gL_isTerminal_X2_terminalSession rfl 0 (by decide +kernel) ⟨Nat.le_of_ble_eq_true rfl, Nat.le_of_ble_eq_true rfl⟩ hC.x (ci := 2) rfl rfl rfl dL_isTerminal_21 rfl (Nat.le_of_ble_eq_true rfl) rfl ⟨Nat.le_of_ble_eq_true rfl, Nat.le_of_ble_eq_true rfl⟩ ?_
    rintro v G9 ⟨rfl, rfl⟩
    refine zz_istore (pc := 24) C dL_isTerminal_24 (Nat.le_of_ble_eq_true rfl) ?_
    refine zV.less (L' := [some (.ref (x)), some (.int (nI k9)), some (.int (nI a9)), some (.int (nI b9)), some (.int (zb (¬ zNot σ k9))), some (.int (σ 21 0)), none, none, none, none]) ⟨rfl, rfl, rfl, rfl, rfl, rfl, trivial⟩ ?_
    refine zz_aload_n (pc := 26) C dL_isTerminal_26 rfl ?_
    refine zz_callV (pc := 27) C (c_X2_foreground l D hC) gL_isTerminal_X2_foreground rfl 0 (by decide +kernel) ⟨Nat.le_of_ble_eq_true rfl, Nat.le_of_ble_eq_true rfl⟩ hC.x (ci := 2) rfl rfl rfl dL_isTerminal_27 rfl (Nat.le_of_ble_eq_true rfl) rfl ⟨Nat.le_of_ble_eq_true rfl, Nat.le_of_ble_eq_true rfl⟩ ?_
    rintro v G9 ⟨rfl, rfl⟩
    refine zz_istore (pc := 30) C dL_isTerminal_30 (Nat.le_of_ble_eq_true rfl) ?_
    refine zV.less (L' := [some (.ref (x)), some (.int (nI k9)), some (.int (nI a9)), some (.int (nI b9)), some (.int (zb (¬ zNot σ k9))), some (.int (σ 21 0)), some (.int (σ 22 0)), none, none, none]) ⟨rfl, rfl, rfl, rfl, rfl, rfl, rfl, trivial⟩ ?_
    refine zz_iload_n (pc := 32) C dL_isTerminal_32 rfl ?_
    refine zz_iconst (pc := 33) C (v := 4) (by decide) dL_isTerminal_33 ?_
    refine zz_irem (pc := 34) C (a := a9) (d := 4) dL_isTerminal_34 rfl rfl (by omega) (by decide) (by decide) ?_
    refine zz_iconst (pc := 35) C (v := 2) (by decide) dL_isTerminal_35 ?_
    refine zz_icmp_ge (pc := 36) C (tgt := 126) dL_isTerminal_36 (by decide) (fun hc36 => ?_) (fun hc36 => ?_)
    · exact absurd hc36 (zM4nl hm)
    · refine zz_iload (pc := 39) C dL_isTerminal_39 rfl ?_
      refine zz_if_eq (pc := 41) C (tgt := 63) dL_isTerminal_41 (by decide) (fun hc41 => ?_) (fun hc41 => ?_)
      · refine zz_iconst (pc := 63) C (v := 0) (by decide) dL_isTerminal_63 ?_
        exact zV.less (L' := [some (.ref x), some (.int (nI k9)), some (.int (nI a9)), some (.int (nI b9)), some (.int (zb (¬ zNot σ k9))), some (.int (σ 21 0)), some (.int (σ 22 0)), none, none, none]) ⟨rfl, rfl, rfl, rfl, rfl, rfl, rfl, trivial⟩ (zV.topK K64 ((zb_f (fun z => zb_eq.mp hc41 z.1)).symm))
      · refine zz_aload_n (pc := 44) C dL_isTerminal_44 rfl ?_
        refine zz_iload_n (pc := 45) C dL_isTerminal_45 rfl ?_
        refine zz_callV (pc := 46) C (q_session l D hC h1 hk h0) gL_isTerminal_X2_session rfl 1 (by decide +kernel) ⟨Nat.le_of_ble_eq_true rfl, Nat.le_of_ble_eq_true rfl⟩ hC.x (ci := 2) rfl rfl rfl dL_isTerminal_46 rfl (Nat.le_of_ble_eq_true rfl) rfl ⟨Nat.le_of_ble_eq_true rfl, Nat.le_of_ble_eq_true rfl⟩ ?_
        rintro v G9 ⟨rfl, rfl⟩
        refine zz_iload_n (pc := 49) C dL_isTerminal_49 rfl ?_
        refine zz_icmp_ne (pc := 50) C (tgt := 63) dL_isTerminal_50 (by decide) (fun hc50 => ?_) (fun hc50 => ?_)
        · refine zz_iconst (pc := 63) C (v := 0) (by decide) dL_isTerminal_63 ?_
          exact zV.less (L' := [some (.ref x), some (.int (nI k9)), some (.int (nI a9)), some (.int (nI b9)), some (.int (zb (¬ zNot σ k9))), some (.int (σ 21 0)), some (.int (σ 22 0)), none, none, none]) ⟨rfl, rfl, rfl, rfl, rfl, rfl, rfl, trivial⟩ (zV.topK K64 ((zb_f (fun z => hc50 z.2.1)).symm))
        · refine zz_iload (pc := 53) C dL_isTerminal_53 rfl ?_
          refine zz_iconst (pc := 55) C (v := -1) (by decide) dL_isTerminal_55 ?_
          refine zz_icmp_ne (pc := 56) C (tgt := 63) dL_isTerminal_56 (by decide) (fun hc56 => ?_) (fun hc56 => ?_)
          · refine zz_iconst (pc := 63) C (v := 0) (by decide) dL_isTerminal_63 ?_
            exact zV.less (L' := [some (.ref x), some (.int (nI k9)), some (.int (nI a9)), some (.int (nI b9)), some (.int (zb (¬ zNot σ k9))), some (.int (σ 21 0)), some (.int (σ 22 0)), none, none, none]) ⟨rfl, rfl, rfl, rfl, rfl, rfl, rfl, trivial⟩ (zV.topK K64 ((zb_f (fun z => hc56 z.2.2)).symm))
          · refine zz_iconst (pc := 59) C (v := 1) (by decide) dL_isTerminal_59 ?_
            refine zz_goto (pc := 60) C (tgt := 64) dL_isTerminal_60 (by decide) ?_
            exact zV.less (L' := [some (.ref x), some (.int (nI k9)), some (.int (nI a9)), some (.int (nI b9)), some (.int (zb (¬ zNot σ k9))), some (.int (σ 21 0)), some (.int (σ 22 0)), none, none, none]) ⟨rfl, rfl, rfl, rfl, rfl, rfl, rfl, trivial⟩ (zV.topK K64 ((zb_t ⟨zbp hc41, Classical.not_not.mp hc50, Classical.not_not.mp hc56⟩).symm))
  refine zz_iload_n (pc := 0) C dL_isTerminal_0 rfl ?_
  refine zz_iconst (pc := 1) C (v := 1) (by decide) dL_isTerminal_1 ?_
  refine zz_icmp_le (pc := 2) C (tgt := 17) dL_isTerminal_2 (by decide) (fun hc2 => ?_) (fun hc2 => ?_)
  · refine zz_iconst (pc := 17) C (v := 0) (by decide) dL_isTerminal_17 ?_
    exact zV.less (L' := [some (.ref x), some (.int (nI k9)), some (.int (nI a9)), some (.int (nI b9)), none, none, none, none, none, none]) ⟨rfl, rfl, rfl, rfl, trivial⟩ (zV.topK K18 ((zb_f (fun z => z (Or.inl (zLe1 h1 hk hc2)))).symm))
  · refine zz_aload_n (pc := 5) C dL_isTerminal_5 rfl ?_
    refine zz_iload_n (pc := 6) C dL_isTerminal_6 rfl ?_
    refine zz_callV (pc := 7) C (q_state l D hC h1 hk h0) gL_isTerminal_X2_state rfl 1 (by decide +kernel) ⟨Nat.le_of_ble_eq_true rfl, Nat.le_of_ble_eq_true rfl⟩ hC.x (ci := 2) rfl rfl rfl dL_isTerminal_7 rfl (Nat.le_of_ble_eq_true rfl) rfl ⟨Nat.le_of_ble_eq_true rfl, Nat.le_of_ble_eq_true rfl⟩ ?_
    rintro v G9 ⟨rfl, rfl⟩
    refine zz_if_ne (pc := 10) C (tgt := 17) dL_isTerminal_10 (by decide) (fun hc10 => ?_) (fun hc10 => ?_)
    · refine zz_iconst (pc := 17) C (v := 0) (by decide) dL_isTerminal_17 ?_
      exact zV.less (L' := [some (.ref x), some (.int (nI k9)), some (.int (nI a9)), some (.int (nI b9)), none, none, none, none, none, none]) ⟨rfl, rfl, rfl, rfl, trivial⟩ (zV.topK K18 ((zb_f (fun z => z (Or.inr (fun y => hc10 (zCon_0.mpr y))))).symm))
    · refine zz_iconst (pc := 13) C (v := 1) (by decide) dL_isTerminal_13 ?_
      refine zz_goto (pc := 14) C (tgt := 18) dL_isTerminal_14 (by decide) ?_
      exact zV.less (L' := [some (.ref x), some (.int (nI k9)), some (.int (nI a9)), some (.int (nI b9)), none, none, none, none, none, none]) ⟨rfl, rfl, rfl, rfl, trivial⟩ (zV.topK K18 ((zb_t (show ¬ zNot σ k9 from fun z => z.elim (fun y => hc2 (by rw [y]; decide)) (fun y => y (zCon_0.mp (Classical.not_not.mp hc10))))).symm))
set_option maxHeartbeats 4000000 in
set_option maxRecDepth 100000 in
theorem c_L_isTerminal_on (l : Launch) (hl : l.stackTraces = false) (D : va_G) {B G : zG} {x tb ev : Nat} {A : Nat → Nat} {σ : zS} {m0 : Nat} (hC : zCl B x tb ev A σ [] 0 m0 G) {k9 a9 b9 : Nat} (hI : zIv 0 σ []) (h1 : 1 ≤ k9) (hk : k9 < 41) (h0 : σ 0 k9 ≠ 0) (ha : a9 < 5000) (hb : b9 < 6000) (hm : a9 % 4 < 2) (hc9 : ¬ (¬ zNot σ k9 ∧ σ 3 k9 = nI k9 ∧ σ 21 0 = -1)) : zxMet D l yL_isTerminal wsL_isTerminal ({ frames := 12, cells := 20, slots := 120, locals := 340 } : Room) [.ref x, .int (nI k9), .int (nI a9), .int (nI b9)] G (fun v G9 => v = some (.int 1) ∧ zLq B x σ m0 G9) (fun _ => False) := by
  refine zxMet_of (cc := cL_isTerminal) (maxL := 10) (ret := (some .boolean)) (by decide) rfl (Nat.le_of_ble_eq_true rfl) ?_
  intro p e s m args below meth c C hnx h8
  have hW := hI.wf
  have hTH : zE2 (¬ zHere σ (nI k9)) (zNot σ (pn (nI k9)) ∨ σ 3 (pn (nI k9)) ≠ nI k9 ∨ σ 21 0 ≠ -1) = 2 := zE2_2 (fun z => z (zHere_n h1 hk h0)) (by rw [pnn hk]; by_cases z : zNot σ k9; exact Or.inl z; by_cases y : σ 3 k9 = nI k9; by_cases u : σ 21 0 = -1; exact absurd ⟨z, y, u⟩ hc9; exact Or.inr (Or.inr u); exact Or.inr (Or.inl y))
  have K64 : zV p l e ({ frames := 12, cells := 20, slots := 120, locals := 340 } : Room) s m args below meth c D (zA G s.heap.size) 0 0 (zxZ below D G (fun v G9 => v = some (.int 1) ∧ zLq B x σ m0 G9) (fun _ => False) args s ({ frames := 12, cells := 20, slots := 120, locals := 340 } : Room)) G 64 [some (.ref x), some (.int (nI k9)), some (.int (nI a9)), some (.int (nI b9)), some (.int (zb (¬ zNot σ k9))), some (.int (σ 21 0)), some (.int (σ 22 0)), none, none, none] [.int (zb (¬ zNot σ k9 ∧ σ 3 k9 = nI k9 ∧ σ 21 0 = -1))] := by
    refine zz_istore (pc := 64) C dL_isTerminal_64 (Nat.le_of_ble_eq_true rfl) ?_
    refine zV.less (L' := [some (.ref (x)), some (.int (nI k9)), some (.int (nI a9)), some (.int (nI b9)), some (.int (zb (¬ zNot σ k9))), some (.int (σ 21 0)), some (.int (σ 22 0)), some (.int (zb (¬ zNot σ k9 ∧ σ 3 k9 = nI k9 ∧ σ 21 0 = -1))), none, none]) ⟨rfl, rfl, rfl, rfl, rfl, rfl, rfl, rfl, trivial⟩ ?_
    refine zz_aload_n (pc := 66) C dL_isTerminal_66 rfl ?_
    refine zz_iload_n (pc := 67) C dL_isTerminal_67 rfl ?_
    refine zzx_callSW (pc := 68) C h8 ((c_L_opens l hl D (x9 := nI k9) hC).imp (fun _ _ z => z.elim (fun y => absurd (hTH.symm.trans y.1) (by decide)) (fun z => z.elim (fun y => absurd (hTH.symm.trans y.1) (by decide)) (fun z => z))) (fun _ z => z)) gL_isTerminal_L_opens rfl 2 (by decide +kernel) ⟨Nat.le_of_ble_eq_true rfl, Nat.le_of_ble_eq_true rfl⟩ rfl dL_isTerminal_68 rfl (Nat.le_of_ble_eq_true rfl) rfl ⟨Nat.le_of_ble_eq_true rfl, Nat.le_of_ble_eq_true rfl⟩ (fun E hE => hE.elim) ?_
    rintro v G9 ⟨_, rfl, rfl⟩
    refine zz_iload (pc := 71) C dL_isTerminal_71 rfl ?_
    refine zz_if_eq (pc := 73) C (tgt := 80) dL_isTerminal_73 (by decide) (fun hc73 => ?_) (fun hc73 => ?_)
    · refine zz_bipush (pc := 80) C (v := -10) (by decide) dL_isTerminal_80 ?_
      refine zz_icmp_ne (pc := 82) C (tgt := 124) dL_isTerminal_82 (by decide) (fun hc82 => ?_) (fun hc82 => ?_)
      · exact absurd rfl hc82
      · refine zz_aload_n (pc := 85) C dL_isTerminal_85 rfl ?_
        refine zz_callV (pc := 86) C (c_X2_terminalSession l D hC) gL_isTerminal_X2_terminalSession rfl 0 (by decide +kernel) ⟨Nat.le_of_ble_eq_true rfl, Nat.le_of_ble_eq_true rfl⟩ hC.x (ci := 2) rfl rfl rfl dL_isTerminal_86 rfl (Nat.le_of_ble_eq_true rfl) rfl ⟨Nat.le_of_ble_eq_true rfl, Nat.le_of_ble_eq_true rfl⟩ ?_
        rintro v G9 ⟨rfl, rfl⟩
        refine zz_iload (pc := 89) C dL_isTerminal_89 rfl ?_
        refine zz_if_eq (pc := 91) C (tgt := 98) dL_isTerminal_91 (by decide) (fun hc91 => ?_) (fun hc91 => ?_)
        · refine zz_iload (pc := 98) C dL_isTerminal_98 rfl ?_
          refine zz_icmp_ne (pc := 100) C (tgt := 124) dL_isTerminal_100 (by decide) (fun hc100 => ?_) (fun hc100 => ?_)
          · exact absurd rfl hc100
          · refine zz_iload (pc := 103) C dL_isTerminal_103 rfl ?_
            refine zz_if_eq (pc := 105) C (tgt := 120) dL_isTerminal_105 (by decide) (fun hc105 => ?_) (fun hc105 => ?_)
            · refine zz_iconst (pc := 120) C (v := 1) (by decide) dL_isTerminal_120 ?_
              refine zz_goto (pc := 121) C (tgt := 125) dL_isTerminal_121 (by decide) ?_
              exact zzx_ret (zz_ireturn (pc := 125) C dL_isTerminal_125 (by first | rfl | exact zb_nar) (Nat.le_of_ble_eq_true rfl) (Nat.le_of_ble_eq_true rfl) ⟨rfl, ⟨tb, ev, A, hC⟩⟩)
            · exact False.elim (hc9 (zbp hc105))
        · exact False.elim (hc9 (zbp hc91))
    · exact False.elim (hc9 (zbp hc73))
  have K18 : zV p l e ({ frames := 12, cells := 20, slots := 120, locals := 340 } : Room) s m args below meth c D (zA G s.heap.size) 0 0 (zxZ below D G (fun v G9 => v = some (.int 1) ∧ zLq B x σ m0 G9) (fun _ => False) args s ({ frames := 12, cells := 20, slots := 120, locals := 340 } : Room)) G 18 [some (.ref x), some (.int (nI k9)), some (.int (nI a9)), some (.int (nI b9)), none, none, none, none, none, none] [.int (zb (¬ zNot σ k9))] := by
    refine zz_istore (pc := 18) C dL_isTerminal_18 (Nat.le_of_ble_eq_true rfl) ?_
    refine zV.less (L' := [some (.ref (x)), some (.int (nI k9)), some (.int (nI a9)), some (.int (nI b9)), some (.int (zb (¬ zNot σ k9))), none, none, none, none, none]) ⟨rfl, rfl, rfl, rfl, rfl, trivial⟩ ?_
    refine zz_aload_n (pc := 20) C dL_isTerminal_20 rfl ?_
    refine zz_callV (pc := 21) C (c_X2_terminalSession l D hC) gL_isTerminal_X2_terminalSession rfl 0 (by decide +kernel) ⟨Nat.le_of_ble_eq_true rfl, Nat.le_of_ble_eq_true rfl⟩ hC.x (ci := 2) rfl rfl rfl dL_isTerminal_21 rfl (Nat.le_of_ble_eq_true rfl) rfl ⟨Nat.le_of_ble_eq_true rfl, Nat.le_of_ble_eq_true rfl⟩ ?_
    rintro v G9 ⟨rfl, rfl⟩
    refine zz_istore (pc := 24) C dL_isTerminal_24 (Nat.le_of_ble_eq_true rfl) ?_
    refine zV.less (L' := [some (.ref (x)), some (.int (nI k9)), some (.int (nI a9)), some (.int (nI b9)), some (.int (zb (¬ zNot σ k9))), some (.int (σ 21 0)), none, none, none, none]) ⟨rfl, rfl, rfl, rfl, rfl, rfl, trivial⟩ ?_
    refine zz_aload_n (pc := 26) C dL_isTerminal_26 rfl ?_
    refine zz_callV (pc := 27) C (c_X2_foreground l D hC) gL_isTerminal_X2_foreground rfl 0 (by decide +kernel) ⟨Nat.le_of_ble_eq_true rfl, Nat.le_of_ble_eq_true rfl⟩ hC.x (ci := 2) rfl rfl rfl dL_isTerminal_27 rfl (Nat.le_of_ble_eq_true rfl) rfl ⟨Nat.le_of_ble_eq_true rfl, Nat.le_of_ble_eq_true rfl⟩ ?_
    rintro v G9 ⟨rfl, rfl⟩
    refine zz_istore (pc := 30) C dL_isTerminal_30 (Nat.le_of_ble_eq_true rfl) ?_
    refine zV.less (L' := [some (.ref (x)), some (.int (nI k9)), some (.int (nI a9)), some (.int (nI b9)), some (.int (zb (¬ zNot σ k9))), some (.int (σ 21 0)), some (.int (σ 22 0)), none, none, none]) ⟨rfl, rfl, rfl, rfl, rfl, rfl, rfl, trivial⟩ ?_
    refine zz_iload_n (pc := 32) C dL_isTerminal_32 rfl ?_
    refine zz_iconst (pc := 33) C (v := 4) (by decide) dL_isTerminal_33 ?_
    refine zz_irem (pc := 34) C (a := a9) (d := 4) dL_isTerminal_34 rfl rfl (by omega) (by decide) (by decide) ?_
    refine zz_iconst (pc := 35) C (v := 2) (by decide) dL_isTerminal_35 ?_
    refine zz_icmp_ge (pc := 36) C (tgt := 126) dL_isTerminal_36 (by decide) (fun hc36 => ?_) (fun hc36 => ?_)
    · exact absurd hc36 (zM4nl hm)
    · refine zz_iload (pc := 39) C dL_isTerminal_39 rfl ?_
      refine zz_if_eq (pc := 41) C (tgt := 63) dL_isTerminal_41 (by decide) (fun hc41 => ?_) (fun hc41 => ?_)
      · refine zz_iconst (pc := 63) C (v := 0) (by decide) dL_isTerminal_63 ?_
        exact zV.less (L' := [some (.ref x), some (.int (nI k9)), some (.int (nI a9)), some (.int (nI b9)), some (.int (zb (¬ zNot σ k9))), some (.int (σ 21 0)), some (.int (σ 22 0)), none, none, none]) ⟨rfl, rfl, rfl, rfl, rfl, rfl, rfl, trivial⟩ (zV.topK K64 ((zb_f (fun z => zb_eq.mp hc41 z.1)).symm))
      · refine zz_aload_n (pc := 44) C dL_isTerminal_44 rfl ?_
        refine zz_iload_n (pc := 45) C dL_isTerminal_45 rfl ?_
        refine zz_callV (pc := 46) C (q_session l D hC h1 hk h0) gL_isTerminal_X2_session rfl 1 (by decide +kernel) ⟨Nat.le_of_ble_eq_true rfl, Nat.le_of_ble_eq_true rfl⟩ hC.x (ci := 2) rfl rfl rfl dL_isTerminal_46 rfl (Nat.le_of_ble_eq_true rfl) rfl ⟨Nat.le_of_ble_eq_true rfl, Nat.le_of_ble_eq_true rfl⟩ ?_
        rintro v G9 ⟨rfl, rfl⟩
        refine zz_iload_n (pc := 49) C dL_isTerminal_49 rfl ?_
        refine zz_icmp_ne (pc := 50) C (tgt := 63) dL_isTerminal_50 (by decide) (fun hc50 => ?_) (fun hc50 => ?_)
        · refine zz_iconst (pc := 63) C (v := 0) (by decide) dL_isTerminal_63 ?_
          exact zV.less (L' := [some (.ref x), some (.int (nI k9)), some (.int (nI a9)), some (.int (nI b9)), some (.int (zb (¬ zNot σ k9))), some (.int (σ 21 0)), some (.int (σ 22 0)), none, none, none]) ⟨rfl, rfl, rfl, rfl, rfl, rfl, rfl, trivial⟩ (zV.topK K64 ((zb_f (fun z => hc50 z.2.1)).symm))
        · refine zz_iload (pc := 53) C dL_isTerminal_53 rfl ?_
          refine zz_iconst (pc := 55) C (v := -1) (by decide) dL_isTerminal_55 ?_
          refine zz_icmp_ne (pc := 56) C (tgt := 63) dL_isTerminal_56 (by decide) (fun hc56 => ?_) (fun hc56 => ?_)
          · refine zz_iconst (pc := 63) C (v := 0) (by decide) dL_isTerminal_63 ?_
            exact zV.less (L' := [some (.ref x), some (.int (nI k9)), some (.int (nI a9)), some (.int (nI b9)), some (.int (zb (¬ zNot σ k9))), some (.int (σ 21 0)), some (.int (σ 22 0)), none, none, none]) ⟨rfl, rfl, rfl, rfl, rfl, rfl, rfl, trivial⟩ (zV.topK K64 ((zb_f (fun z => hc56 z.2.2)).symm))
          · refine zz_iconst (pc := 59) C (v := 1) (by decide) dL_isTerminal_59 ?_
            refine zz_goto (pc := 60) C (tgt := 64) dL_isTerminal_60 (by decide) ?_
            exact zV.less (L' := [some (.ref x), some (.int (nI k9)), some (.int (nI a9)), some (.int (nI b9)), some (.int (zb (¬ zNot σ k9))), some (.int (σ 21 0)), some (.int (σ 22 0)), none, none, none]) ⟨rfl, rfl, rfl, rfl, rfl, rfl, rfl, trivial⟩ (zV.topK K64 ((zb_t ⟨zbp hc41, Classical.not_not.mp hc50, Classical.not_not.mp hc56⟩).symm))
  refine zz_iload_n (pc := 0) C dL_isTerminal_0 rfl ?_
  refine zz_iconst (pc := 1) C (v := 1) (by decide) dL_isTerminal_1 ?_
  refine zz_icmp_le (pc := 2) C (tgt := 17) dL_isTerminal_2 (by decide) (fun hc2 => ?_) (fun hc2 => ?_)
  · refine zz_iconst (pc := 17) C (v := 0) (by decide) dL_isTerminal_17 ?_
    exact zV.less (L' := [some (.ref x), some (.int (nI k9)), some (.int (nI a9)), some (.int (nI b9)), none, none, none, none, none, none]) ⟨rfl, rfl, rfl, rfl, trivial⟩ (zV.topK K18 ((zb_f (fun z => z (Or.inl (zLe1 h1 hk hc2)))).symm))
  · refine zz_aload_n (pc := 5) C dL_isTerminal_5 rfl ?_
    refine zz_iload_n (pc := 6) C dL_isTerminal_6 rfl ?_
    refine zz_callV (pc := 7) C (q_state l D hC h1 hk h0) gL_isTerminal_X2_state rfl 1 (by decide +kernel) ⟨Nat.le_of_ble_eq_true rfl, Nat.le_of_ble_eq_true rfl⟩ hC.x (ci := 2) rfl rfl rfl dL_isTerminal_7 rfl (Nat.le_of_ble_eq_true rfl) rfl ⟨Nat.le_of_ble_eq_true rfl, Nat.le_of_ble_eq_true rfl⟩ ?_
    rintro v G9 ⟨rfl, rfl⟩
    refine zz_if_ne (pc := 10) C (tgt := 17) dL_isTerminal_10 (by decide) (fun hc10 => ?_) (fun hc10 => ?_)
    · refine zz_iconst (pc := 17) C (v := 0) (by decide) dL_isTerminal_17 ?_
      exact zV.less (L' := [some (.ref x), some (.int (nI k9)), some (.int (nI a9)), some (.int (nI b9)), none, none, none, none, none, none]) ⟨rfl, rfl, rfl, rfl, trivial⟩ (zV.topK K18 ((zb_f (fun z => z (Or.inr (fun y => hc10 (zCon_0.mpr y))))).symm))
    · refine zz_iconst (pc := 13) C (v := 1) (by decide) dL_isTerminal_13 ?_
      refine zz_goto (pc := 14) C (tgt := 18) dL_isTerminal_14 (by decide) ?_
      exact zV.less (L' := [some (.ref x), some (.int (nI k9)), some (.int (nI a9)), some (.int (nI b9)), none, none, none, none, none, none]) ⟨rfl, rfl, rfl, rfl, trivial⟩ (zV.topK K18 ((zb_t (show ¬ zNot σ k9 from fun z => z.elim (fun y => hc2 (by rw [y]; decide)) (fun y => y (zCon_0.mp (Classical.not_not.mp hc10))))).symm))
