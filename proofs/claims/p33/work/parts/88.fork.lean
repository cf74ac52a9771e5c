/-! the law's methods that call once and ask: fork, beginSession -/
section ZTK
variable {p : Program} {l : Launch} {e : Env} {R : Room} {s : State} {m : MethodId} {args : Array Value} {below : List Frame} {meth : Method} {c : Code} {D : va_G} {A : Nat → Prop} {cells slots : Nat} {Q : State → Prop} {G : zG} {pc : Nat} {L : List (Option Value)} {st : List Value}
theorem zV.topK {v w : Int32} (kk : zV p l e R s m args below meth c D A cells slots Q G pc L (.int w :: st)) (h : v = w) : zV p l e R s m args below meth c D A cells slots Q G pc L (.int v :: st) := by subst h; exact kk
end ZTK
abbrev zBI (σ : zS) (k n : Nat) : Prop := ¬ zNot σ k ∧ ¬ zIsGrp σ (nI k) n
theorem zBI_1 {σ : zS} {k n : Nat} (hn : ¬ (σ 0 n ≠ 0 ∧ σ 2 n = nI k)) (h : zBI σ k n) : zBI σ k (n + 1) := ⟨h.1, fun z => z (zAll_succ.mpr ⟨Classical.not_not.mp h.2, hn⟩)⟩
theorem zBI_d {σ : zS} {k n : Nat} (h : zBI σ k (n + 1)) : zBI σ k n := ⟨h.1, fun z => z (zAll_succ.mp (Classical.not_not.mp h.2)).1⟩
theorem zBI_x {σ : zS} {k n : Nat} (h : zBI σ k (n + 1)) : ¬ (σ 0 n ≠ 0 ∧ σ 2 n = nI k) := (zAll_succ.mp (Classical.not_not.mp h.2)).2
def zLq (B : zG) (x : Nat) (σ : zS) (m : Nat) (G : zG) : Prop := ∃ (tb ev : Nat) (A : Nat → Nat), zCl B x tb ev A σ [] 0 m G
theorem pnn {k : Nat} (h : k < 41) : pn (nI k) = k := nI_clamp (by omega)
theorem zFree_first {σ : zS} {i : Nat} (h1 : 1 ≤ i) (hi : i < 41) (h : zFreeN σ i 41) (hl : ∀ f, f < i → ¬ (1 ≤ f ∧ zFreeN σ f 41)) : zFreeV σ = nI i := by
  unfold zFreeV
  rw [zFind_some (b := i) hi (decide_eq_true ⟨h1, h⟩) (fun k hk => decide_eq_false (hl k hk))]
theorem zFree_none {σ : zS} (hl : ∀ f, f < 41 → ¬ (1 ≤ f ∧ zFreeN σ f 41)) : zFreeV σ = -1 := by
  unfold zFreeV
  have : (List.range 41).find? (fun k => decide (1 ≤ k ∧ zFreeN σ k 41)) = none := by
    rw [List.find?_eq_none]
    intro k hk
    rw [decide_eq_true_eq]
    exact hl k (List.mem_range.mp hk)
  rw [this]
theorem zFN_x {σ : zS} {i n : Nat} (h : zFreeN σ i (n + 1)) : ¬ zTk σ i n := h.2 n (by omega)
theorem zFree_2 {σ : zS} (hW : zWf σ) {i : Nat} (hi : 2 ≤ i) (hi41 : i < 41) : zFreeN σ i 2 ↔ σ 0 i = 0 := by
  refine ⟨fun z => z.1, fun z => ⟨z, fun k hk t => ?_⟩⟩
  have hk01 : k = 0 ∨ k = 1 := by omega
  rcases hk01 with rfl | rfl
  · exact t.1 hW.z
  · have h2 : σ 2 1 = 1 := hW.2.2.2.2.1.2.2.1
    have h3 : σ 3 1 = 1 := hW.2.2.2.2.1.2.2.2.1
    have ne : ¬ (1 : Int32) = nI i := fun y => by
      have := (nI_eq (a := 1) (b := i) (by decide) (by omega)).mp y
      omega
    rcases t.2 with y | y
    · rw [h2] at y; exact ne y
    · rw [h3] at y; exact ne y
set_option maxHeartbeats 4000000 in
set_option maxRecDepth 100000 in
theorem c_L_free (l : Launch) (D : va_G) {B G : zG} {x tb ev : Nat} {A : Nat → Nat} {σ : zS} {m0 : Nat} (hC : zCl B x tb ev A σ [] 0 m0 G)  (hW : zWf σ) : zMet D l yL_free wsL_free ({ frames := 3, cells := 0, slots := 0, locals := 100 } : Room) [.ref x] G (fun v G9 => v = some (.int (if zFreeV σ = -1 then -10 else zFreeV σ)) ∧ G9 = G) := by
  refine zMet_of (cc := cL_free) (maxL := 4) (ret := (some .int)) (by decide) rfl (Nat.le_of_ble_eq_true rfl) ?_
  intro p e s m args below meth c C hmn
  have loop : ∀ (n i : Nat), i + n = 41 → 2 ≤ i → (∀ f, f < i → ¬ (1 ≤ f ∧ zFreeN σ f 41)) → zV p l e ({ frames := 3, cells := 0, slots := 0, locals := 100 } : Room) s m args below meth c D (zA G s.heap.size) 0 0 (zZ below D G (fun v G9 => v = some (.int (if zFreeV σ = -1 then -10 else zFreeV σ)) ∧ G9 = G) args s ({ frames := 3, cells := 0, slots := 0, locals := 100 } : Room)) G 2 [some (.ref x), some (.int (nI (i))), none, none] [] := by
    intro n
    induction n with
    | zero =>
      intro i hi hi2 hinv
      have hi41 : i = 41 := by omega
      subst hi41
      refine zz_iload_n (pc := 2) C dL_free_2 rfl ?_
      refine zz_bipush (pc := 3) C (v := 41) (by decide) dL_free_3 ?_
      refine zz_icmp_ge (pc := 5) C (tgt := 84) dL_free_5 (by decide) (fun hc5 => ?_) (fun hc5 => ?_)
      · refine zz_bipush (pc := 84) C (v := -10) (by decide) dL_free_84 ?_
        exact zz_ireturn (pc := 86) C dL_free_86 (by first | rfl | exact zb_nar) (Nat.le_of_ble_eq_true rfl) (Nat.le_of_ble_eq_true rfl) ⟨by rw [if_pos (zFree_none hinv)], rfl⟩
      · exact absurd z41c hc5
    | succ n ih =>
      intro i hi hi2 hinv
      have inner : ∀ (mm j : Nat), j + mm = 41 → 2 ≤ j → zV p l e ({ frames := 3, cells := 0, slots := 0, locals := 100 } : Room) s m args below meth c D (zA G s.heap.size) 0 0 (zZ below D G (fun v G9 => v = some (.int (if zFreeV σ = -1 then -10 else zFreeV σ)) ∧ G9 = G) args s ({ frames := 3, cells := 0, slots := 0, locals := 100 } : Room)) G 24 [some (.ref x), some (.int (nI i)), some (.int (zb (zFreeN σ i (j)))), some (.int (nI (j)))] [] := by
        intro mm
        induction mm with
        | zero =>
          intro j hj hj2
          have hj41 : j = 41 := by omega
          subst hj41
          refine zz_iload_n (pc := 24) C dL_free_24 rfl ?_
          refine zz_bipush (pc := 25) C (v := 41) (by decide) dL_free_25 ?_
          refine zz_icmp_ge (pc := 27) C (tgt := 72) dL_free_27 (by decide) (fun hc27 => ?_) (fun hc27 => ?_)
          · refine zz_iload_n (pc := 72) C dL_free_72 rfl ?_
            refine zz_if_eq (pc := 73) C (tgt := 78) dL_free_73 (by decide) (fun hc73 => ?_) (fun hc73 => ?_)
            · refine zz_iinc (pc := 78) C dL_free_78 rfl ?_
              refine zV.less (L' := [some (.ref (x)), some (.int (nI (i + 1))), some (.int (zb (zFreeN σ i (41)))), some (.int (nI (41)))]) ⟨rfl, zvi (z1i i), rfl, rfl, trivial⟩ ?_
              refine zz_goto (pc := 81) C (tgt := 2) dL_free_81 (by decide) ?_
              exact zV.less (L' := [some (.ref x), some (.int (nI (i + 1))), none, none]) ⟨rfl, rfl, trivial⟩ (ih (i + 1) (by omega) (by omega) (zAll_succ.mpr ⟨hinv, fun z => zb_eq.mp (Classical.not_not.mp (fun y => y hc73)) z.2⟩))
            · refine zz_iload_n (pc := 76) C dL_free_76 rfl ?_
              exact zz_ireturn (pc := 77) C dL_free_77 (by first | rfl | exact zb_nar) (Nat.le_of_ble_eq_true rfl) (Nat.le_of_ble_eq_true rfl) ⟨by rw [zFree_first (by omega) (by omega) (zb_ne.mp hc73) hinv, if_neg (znm1 (by omega))], rfl⟩
          · exact absurd z41c hc27
        | succ mm ihm =>
          intro j hj hj2
          have K65 : zV p l e ({ frames := 3, cells := 0, slots := 0, locals := 100 } : Room) s m args below meth c D (zA G s.heap.size) 0 0 (zZ below D G (fun v G9 => v = some (.int (if zFreeV σ = -1 then -10 else zFreeV σ)) ∧ G9 = G) args s ({ frames := 3, cells := 0, slots := 0, locals := 100 } : Room)) G 65 [some (.ref x), some (.int (nI i)), some (.int (zb (zFreeN σ i (j)))), some (.int (nI (j)))] [.int (zb (zFreeN σ i (j + 1)))] := by
            refine zz_istore_n (pc := 65) C dL_free_65 (Nat.le_of_ble_eq_true rfl) ?_
            refine zV.less (L' := [some (.ref (x)), some (.int (nI i)), some (.int (zb (zFreeN σ i (j + 1)))), some (.int (nI (j)))]) ⟨rfl, rfl, rfl, rfl, trivial⟩ ?_
            refine zz_iinc (pc := 66) C dL_free_66 rfl ?_
            refine zV.less (L' := [some (.ref (x)), some (.int (nI i)), some (.int (zb (zFreeN σ i (j + 1)))), some (.int (nI (j + 1)))]) ⟨rfl, rfl, rfl, zvi (z1i j), trivial⟩ ?_
            refine zz_goto (pc := 69) C (tgt := 24) dL_free_69 (by decide) ?_
            exact ihm (j + 1) (by omega) (by omega)
          refine zz_iload_n (pc := 24) C dL_free_24 rfl ?_
          refine zz_bipush (pc := 25) C (v := 41) (by decide) dL_free_25 ?_
          refine zz_icmp_ge (pc := 27) C (tgt := 72) dL_free_27 (by decide) (fun hc27 => ?_) (fun hc27 => ?_)
          · exact absurd hc27 (z41b (by omega))
          · refine zz_iload_n (pc := 30) C dL_free_30 rfl ?_
            refine zz_if_eq (pc := 31) C (tgt := 64) dL_free_31 (by decide) (fun hc31 => ?_) (fun hc31 => ?_)
            · refine zz_iconst (pc := 64) C (v := 0) (by decide) dL_free_64 ?_
              exact zV.less (L' := [some (.ref x), some (.int (nI i)), some (.int (zb (zFreeN σ i (j)))), some (.int (nI (j)))]) ⟨rfl, rfl, rfl, rfl, trivial⟩ (zV.topK K65 ((zb_f (fun z => zb_eq.mp hc31 ⟨z.1, fun k hk => z.2 k (by omega)⟩)).symm))
            · refine zz_aload_n (pc := 34) C dL_free_34 rfl ?_
              refine zz_iload_n (pc := 35) C dL_free_35 rfl ?_
              refine zz_callV (pc := 36) C (q_exists l D hC (by omega) (by omega)) gL_free_X2_exists rfl 1 (by decide +kernel) ⟨Nat.le_of_ble_eq_true rfl, Nat.le_of_ble_eq_true rfl⟩ hC.x (ci := 2) rfl rfl rfl dL_free_36 rfl (Nat.le_of_ble_eq_true rfl) rfl ⟨Nat.le_of_ble_eq_true rfl, Nat.le_of_ble_eq_true rfl⟩ ?_
              rintro v G9 ⟨rfl, rfl⟩
              refine zz_if_eq (pc := 39) C (tgt := 60) dL_free_39 (by decide) (fun hc39 => ?_) (fun hc39 => ?_)
              · refine zz_iconst (pc := 60) C (v := 1) (by decide) dL_free_60 ?_
                refine zz_goto (pc := 61) C (tgt := 65) dL_free_61 (by decide) ?_
                exact zV.less (L' := [some (.ref x), some (.int (nI i)), some (.int (zb (zFreeN σ i (j)))), some (.int (nI (j)))]) ⟨rfl, rfl, rfl, rfl, trivial⟩ (zV.topK K65 ((zb_t ⟨(zbp hc31).1, zAll_succ.mpr ⟨(zbp hc31).2, fun z => zb_eq.mp hc39 z.1⟩⟩).symm))
              · refine zz_aload_n (pc := 42) C dL_free_42 rfl ?_
                refine zz_iload_n (pc := 43) C dL_free_43 rfl ?_
                refine zz_callV (pc := 44) C (q_group l D hC (by omega) (by omega) (zbp hc39)) gL_free_X2_group rfl 1 (by decide +kernel) ⟨Nat.le_of_ble_eq_true rfl, Nat.le_of_ble_eq_true rfl⟩ hC.x (ci := 2) rfl rfl rfl dL_free_44 rfl (Nat.le_of_ble_eq_true rfl) rfl ⟨Nat.le_of_ble_eq_true rfl, Nat.le_of_ble_eq_true rfl⟩ ?_
                rintro v G9 ⟨rfl, rfl⟩
                refine zz_iload_n (pc := 47) C dL_free_47 rfl ?_
                refine zz_icmp_eq (pc := 48) C (tgt := 64) dL_free_48 (by decide) (fun hc48 => ?_) (fun hc48 => ?_)
                · refine zz_iconst (pc := 64) C (v := 0) (by decide) dL_free_64 ?_
                  exact zV.less (L' := [some (.ref x), some (.int (nI i)), some (.int (zb (zFreeN σ i (j)))), some (.int (nI (j)))]) ⟨rfl, rfl, rfl, rfl, trivial⟩ (zV.topK K65 ((zb_f (fun z => zFN_x z ⟨zbp hc39, Or.inl hc48⟩)).symm))
                · refine zz_aload_n (pc := 51) C dL_free_51 rfl ?_
                  refine zz_iload_n (pc := 52) C dL_free_52 rfl ?_
                  refine zz_callV (pc := 53) C (q_session l D hC (by omega) (by omega) (zbp hc39)) gL_free_X2_session rfl 1 (by decide +kernel) ⟨Nat.le_of_ble_eq_true rfl, Nat.le_of_ble_eq_true rfl⟩ hC.x (ci := 2) rfl rfl rfl dL_free_53 rfl (Nat.le_of_ble_eq_true rfl) rfl ⟨Nat.le_of_ble_eq_true rfl, Nat.le_of_ble_eq_true rfl⟩ ?_
                  rintro v G9 ⟨rfl, rfl⟩
                  refine zz_iload_n (pc := 56) C dL_free_56 rfl ?_
                  refine zz_icmp_eq (pc := 57) C (tgt := 64) dL_free_57 (by decide) (fun hc57 => ?_) (fun hc57 => ?_)
                  · refine zz_iconst (pc := 64) C (v := 0) (by decide) dL_free_64 ?_
                    exact zV.less (L' := [some (.ref x), some (.int (nI i)), some (.int (zb (zFreeN σ i (j)))), some (.int (nI (j)))]) ⟨rfl, rfl, rfl, rfl, trivial⟩ (zV.topK K65 ((zb_f (fun z => zFN_x z ⟨zbp hc39, Or.inr hc57⟩)).symm))
                  · refine zz_iconst (pc := 60) C (v := 1) (by decide) dL_free_60 ?_
                    refine zz_goto (pc := 61) C (tgt := 65) dL_free_61 (by decide) ?_
                    exact zV.less (L' := [some (.ref x), some (.int (nI i)), some (.int (zb (zFreeN σ i (j)))), some (.int (nI (j)))]) ⟨rfl, rfl, rfl, rfl, trivial⟩ (zV.topK K65 ((zb_t ⟨(zbp hc31).1, zAll_succ.mpr ⟨(zbp hc31).2, fun z => z.2.elim hc48 hc57⟩⟩).symm))
      have K21 : zV p l e ({ frames := 3, cells := 0, slots := 0, locals := 100 } : Room) s m args below meth c D (zA G s.heap.size) 0 0 (zZ below D G (fun v G9 => v = some (.int (if zFreeV σ = -1 then -10 else zFreeV σ)) ∧ G9 = G) args s ({ frames := 3, cells := 0, slots := 0, locals := 100 } : Room)) G 21 [some (.ref x), some (.int (nI (i))), none, none] [.int (zb (zFreeN σ i 2))] := by
        refine zz_istore_n (pc := 21) C dL_free_21 (Nat.le_of_ble_eq_true rfl) ?_
        refine zV.less (L' := [some (.ref (x)), some (.int (nI (i))), some (.int (zb (zFreeN σ i 2))), none]) ⟨rfl, rfl, rfl, trivial⟩ ?_
        refine zz_iconst (pc := 22) C (v := 2) (by decide) dL_free_22 ?_
        refine zz_istore_n (pc := 23) C dL_free_23 (Nat.le_of_ble_eq_true rfl) ?_
        refine zV.less (L' := [some (.ref (x)), some (.int (nI (i))), some (.int (zb (zFreeN σ i 2))), some (.int (nI 2))]) ⟨rfl, rfl, rfl, rfl, trivial⟩ ?_
        exact inner 39 2 rfl (by omega)
      refine zz_iload_n (pc := 2) C dL_free_2 rfl ?_
      refine zz_bipush (pc := 3) C (v := 41) (by decide) dL_free_3 ?_
      refine zz_icmp_ge (pc := 5) C (tgt := 84) dL_free_5 (by decide) (fun hc5 => ?_) (fun hc5 => ?_)
      · exact absurd hc5 (z41b (by omega))
      · refine zz_aload_n (pc := 8) C dL_free_8 rfl ?_
        refine zz_iload_n (pc := 9) C dL_free_9 rfl ?_
        refine zz_callV (pc := 10) C (q_exists l D hC (by omega) (by omega)) gL_free_X2_exists rfl 1 (by decide +kernel) ⟨Nat.le_of_ble_eq_true rfl, Nat.le_of_ble_eq_true rfl⟩ hC.x (ci := 2) rfl rfl rfl dL_free_10 rfl (Nat.le_of_ble_eq_true rfl) rfl ⟨Nat.le_of_ble_eq_true rfl, Nat.le_of_ble_eq_true rfl⟩ ?_
        rintro v G9 ⟨rfl, rfl⟩
        refine zz_if_ne (pc := 13) C (tgt := 20) dL_free_13 (by decide) (fun hc13 => ?_) (fun hc13 => ?_)
        · refine zz_iconst (pc := 20) C (v := 0) (by decide) dL_free_20 ?_
          exact zV.less (L' := [some (.ref x), some (.int (nI (i))), none, none]) ⟨rfl, rfl, trivial⟩ (zV.topK K21 ((zb_f (fun z => zb_ne.mp hc13 z.1)).symm))
        · refine zz_iconst (pc := 16) C (v := 1) (by decide) dL_free_16 ?_
          refine zz_goto (pc := 17) C (tgt := 21) dL_free_17 (by decide) ?_
          exact zV.less (L' := [some (.ref x), some (.int (nI (i))), none, none]) ⟨rfl, rfl, trivial⟩ (zV.topK K21 ((zb_t ((zFree_2 hW hi2 (by omega)).mpr (Classical.not_not.mp (fun y => hc13 (zb_ne.mpr y))))).symm))
  refine zz_iconst (pc := 0) C (v := 2) (by decide) dL_free_0 ?_
  refine zz_istore_n (pc := 1) C dL_free_1 (Nat.le_of_ble_eq_true rfl) ?_
  refine zV.less (L' := [some (.ref x), some (.int (nI (2))), none, none]) ⟨rfl, rfl, trivial⟩ (loop 39 2 rfl (by omega) (fun f hf z => ?_))
  have hf1 : f = 1 := by omega
  subst hf1
  exact hW.x0 z.2.1
theorem zFork_law {σ : zS} {k f : Nat} (hk : k < 41) (hkf : k ≠ f) (hr : zRunN σ k) (h0 : σ 0 k ≠ 0) : zFork σ (nI k) f 0 f ≠ 0 ∧ zFork σ (nI k) f 0 k ≠ 0 ∧ zFork σ (nI k) f 1 f = nI k ∧ zFork σ (nI k) f 2 f = zFork σ (nI k) f 2 k ∧ zFork σ (nI k) f 3 f = zFork σ (nI k) f 3 k ∧ zRunN (zFork σ (nI k) f) f ∧ zFork σ (nI k) f 11 f = 0 ∧ zFork σ (nI k) f 12 f = 0 ∧ zFork σ (nI k) f 18 f = -1 := by
  have e := pnn hk
  obtain ⟨e0, e1, e2, e3, e4, e5, e6, e10, e11, e12, e13, e17, e18, e19, e20⟩ := zFork_f (σ := σ) (x := nI k) (f := f) (by rw [e]; exact hkf)
  rw [e] at e2 e3
  refine ⟨by rw [e0]; decide, by rw [zFork_o (by decide) hkf]; exact h0, e1, by rw [e2, zFork_o (by decide) hkf], by rw [e3, zFork_o (by decide) hkf], ⟨e4, e5, e6⟩, e11, e12, e18⟩
set_option maxHeartbeats 4000000 in
set_option maxRecDepth 100000 in
theorem c_L_isForked_y (l : Launch) (hl : l.stackTraces = false) (D : va_G) {B G : zG} {x tb ev : Nat} {A : Nat → Nat} {σ : zS} {m0 : Nat} (hC : zCl B x tb ev A σ [] 0 m0 G) {k9 f : Nat} (hI : zIv 0 σ []) (h1 : 1 ≤ k9) (hk : k9 < 41) (h0 : σ 0 k9 ≠ 0) (hr : zRunN σ k9) (ef : zFreeV σ = nI f) (f1 : 1 ≤ f) (f2 : f < 41) (f3 : zFreeN σ f 41) : zxMet D l yL_isForked wsL_isForked ({ frames := 12, cells := 20, slots := 120, locals := 340 } : Room) [.ref x, .int (nI k9)] G (fun v G9 => v = some (.int 1) ∧ zLq B x (zFork σ (nI k9) f) m0 G9) (fun _ => False) := by
  refine zxMet_of (cc := cL_isForked) (maxL := 4) (ret := (some .boolean)) (by decide) rfl (Nat.le_of_ble_eq_true rfl) ?_
  intro p e s m args below meth c C hnx h8
  have hW := hI.wf
  have hkf : k9 ≠ f := fun z => h0 (by rw [z]; exact f3.1)
  have t := zFork_law hk hkf hr h0
  have hW1 : zWf (zFork σ (nI k9) f) := (hI.fork h0 hr.1 f1 f2 f3).wf
  have hv : ¬ zFreeV σ = -1 := by rw [ef]; exact znm1 f2
  have hTH : zE2 (¬ zHere σ (nI k9)) (¬ zRunN σ (pn (nI k9)) ∨ zFreeV σ = -1) = 0 := zE2_0 (fun z => z (zHere_n h1 hk h0)) (by rw [pnn hk]; exact fun z => z.elim (fun y => y hr) hv)
  refine zz_aload_n (pc := 0) C dL_isForked_0 rfl ?_
  refine zz_iload_n (pc := 1) C dL_isForked_1 rfl ?_
  refine zz_callV (pc := 2) C (q_state l D hC h1 hk h0) gL_isForked_X2_state rfl 1 (by decide +kernel) ⟨Nat.le_of_ble_eq_true rfl, Nat.le_of_ble_eq_true rfl⟩ hC.x (ci := 2) rfl rfl rfl dL_isForked_2 rfl (Nat.le_of_ble_eq_true rfl) rfl ⟨Nat.le_of_ble_eq_true rfl, Nat.le_of_ble_eq_true rfl⟩ ?_
  rintro v G9 ⟨rfl, rfl⟩
  refine zz_if_ne (pc := 5) C (tgt := 15) dL_isForked_5 (by decide) (fun hc5 => ?_) (fun hc5 => ?_)
  · exact absurd (zCon_0.mpr hr) hc5
  · refine zz_aload_n (pc := 8) C dL_isForked_8 rfl ?_
    refine zz_callS (pc := 9) C (c_L_free l D hC hW) gL_isForked_L_free rfl 1 (by decide +kernel) ⟨Nat.le_of_ble_eq_true rfl, Nat.le_of_ble_eq_true rfl⟩ rfl dL_isForked_9 rfl (Nat.le_of_ble_eq_true rfl) rfl ⟨Nat.le_of_ble_eq_true rfl, Nat.le_of_ble_eq_true rfl⟩ ?_
    rintro v G9 ⟨rfl, rfl⟩
    rw [if_neg hv, ef]
    refine zz_goto (pc := 12) C (tgt := 17) dL_isForked_12 (by decide) ?_
    refine zz_istore_n (pc := 17) C dL_isForked_17 (Nat.le_of_ble_eq_true rfl) ?_
    refine zV.less (L' := [some (.ref (x)), some (.int (nI k9)), some (.int (nI f)), none]) ⟨rfl, rfl, rfl, trivial⟩ ?_
    refine zz_aload_n (pc := 18) C dL_isForked_18 rfl ?_
    refine zz_iload_n (pc := 19) C dL_isForked_19 rfl ?_
    refine zzx_callSW (pc := 20) C h8 ((c_L_forks l hl D (x9 := nI k9) hC hW).imp (fun _ _ z => z.elim id (fun z => z.elim (fun y => absurd (hTH.symm.trans y.1) (by decide)) (fun z => absurd (hTH.symm.trans z.1) (by decide)))) (fun _ z => z)) gL_isForked_L_forks rfl 2 (by decide +kernel) ⟨Nat.le_of_ble_eq_true rfl, Nat.le_of_ble_eq_true rfl⟩ rfl dL_isForked_20 rfl (Nat.le_of_ble_eq_true rfl) rfl ⟨Nat.le_of_ble_eq_true rfl, Nat.le_of_ble_eq_true rfl⟩ (fun E hE => hE.elim) ?_
    rintro v G9 ⟨_, rfl, A9, hC1⟩
    rw [ef]
    rw [ef, pnn f2] at hC1
    refine zz_istore_n (pc := 23) C dL_isForked_23 (Nat.le_of_ble_eq_true rfl) ?_
    refine zV.less (L' := [some (.ref (x)), some (.int (nI k9)), some (.int (nI f)), some (.int (nI f))]) ⟨rfl, rfl, rfl, rfl, trivial⟩ ?_
    refine zz_iload_n (pc := 24) C dL_isForked_24 rfl ?_
    refine zz_iload_n (pc := 25) C dL_isForked_25 rfl ?_
    refine zz_icmp_ne (pc := 26) C (tgt := 105) dL_isForked_26 (by decide) (fun hc26 => ?_) (fun hc26 => ?_)
    · exact absurd rfl hc26
    · refine zz_iload_n (pc := 29) C dL_isForked_29 rfl ?_
      refine zz_if_lt (pc := 30) C (tgt := 101) dL_isForked_30 (by decide) (fun hc30 => ?_) (fun hc30 => ?_)
      · exact absurd hc30 (nI_nlt (a := f) (b := 0) (by omega) (by omega))
      · refine zz_aload_n (pc := 33) C dL_isForked_33 rfl ?_
        refine zz_iload_n (pc := 34) C dL_isForked_34 rfl ?_
        refine zz_callV (pc := 35) C (q_parent l D hC1 hW1 f1 f2 t.1 (k := f)) gL_isForked_X2_parent rfl 1 (by decide +kernel) ⟨Nat.le_of_ble_eq_true rfl, Nat.le_of_ble_eq_true rfl⟩ hC1.x (ci := 2) rfl rfl rfl dL_isForked_35 rfl (Nat.le_of_ble_eq_true rfl) rfl ⟨Nat.le_of_ble_eq_true rfl, Nat.le_of_ble_eq_true rfl⟩ ?_
        rintro v G9 ⟨rfl, rfl⟩
        refine zz_iload_n (pc := 38) C dL_isForked_38 rfl ?_
        refine zz_icmp_ne (pc := 39) C (tgt := 105) dL_isForked_39 (by decide) (fun hc39 => ?_) (fun hc39 => ?_)
        · exact absurd t.2.2.1 hc39
        · refine zz_aload_n (pc := 42) C dL_isForked_42 rfl ?_
          refine zz_iload_n (pc := 43) C dL_isForked_43 rfl ?_
          refine zz_callV (pc := 44) C (q_group l D hC1 f1 f2 t.1 (k := f)) gL_isForked_X2_group rfl 1 (by decide +kernel) ⟨Nat.le_of_ble_eq_true rfl, Nat.le_of_ble_eq_true rfl⟩ hC1.x (ci := 2) rfl rfl rfl dL_isForked_44 rfl (Nat.le_of_ble_eq_true rfl) rfl ⟨Nat.le_of_ble_eq_true rfl, Nat.le_of_ble_eq_true rfl⟩ ?_
          rintro v G9 ⟨rfl, rfl⟩
          refine zz_aload_n (pc := 47) C dL_isForked_47 rfl ?_
          refine zz_iload_n (pc := 48) C dL_isForked_48 rfl ?_
          refine zz_callV (pc := 49) C (q_group l D hC1 h1 hk t.2.1 (k := k9)) gL_isForked_X2_group rfl 1 (by decide +kernel) ⟨Nat.le_of_ble_eq_true rfl, Nat.le_of_ble_eq_true rfl⟩ hC1.x (ci := 2) rfl rfl rfl dL_isForked_49 rfl (Nat.le_of_ble_eq_true rfl) rfl ⟨Nat.le_of_ble_eq_true rfl, Nat.le_of_ble_eq_true rfl⟩ ?_
          rintro v G9 ⟨rfl, rfl⟩
          refine zz_icmp_ne (pc := 52) C (tgt := 105) dL_isForked_52 (by decide) (fun hc52 => ?_) (fun hc52 => ?_)
          · exact absurd t.2.2.2.1 hc52
          · refine zz_aload_n (pc := 55) C dL_isForked_55 rfl ?_
            refine zz_iload_n (pc := 56) C dL_isForked_56 rfl ?_
            refine zz_callV (pc := 57) C (q_session l D hC1 f1 f2 t.1 (k := f)) gL_isForked_X2_session rfl 1 (by decide +kernel) ⟨Nat.le_of_ble_eq_true rfl, Nat.le_of_ble_eq_true rfl⟩ hC1.x (ci := 2) rfl rfl rfl dL_isForked_57 rfl (Nat.le_of_ble_eq_true rfl) rfl ⟨Nat.le_of_ble_eq_true rfl, Nat.le_of_ble_eq_true rfl⟩ ?_
            rintro v G9 ⟨rfl, rfl⟩
            refine zz_aload_n (pc := 60) C dL_isForked_60 rfl ?_
            refine zz_iload_n (pc := 61) C dL_isForked_61 rfl ?_
            refine zz_callV (pc := 62) C (q_session l D hC1 h1 hk t.2.1 (k := k9)) gL_isForked_X2_session rfl 1 (by decide +kernel) ⟨Nat.le_of_ble_eq_true rfl, Nat.le_of_ble_eq_true rfl⟩ hC1.x (ci := 2) rfl rfl rfl dL_isForked_62 rfl (Nat.le_of_ble_eq_true rfl) rfl ⟨Nat.le_of_ble_eq_true rfl, Nat.le_of_ble_eq_true rfl⟩ ?_
            rintro v G9 ⟨rfl, rfl⟩
            refine zz_icmp_ne (pc := 65) C (tgt := 105) dL_isForked_65 (by decide) (fun hc65 => ?_) (fun hc65 => ?_)
            · exact absurd t.2.2.2.2.1 hc65
            · refine zz_aload_n (pc := 68) C dL_isForked_68 rfl ?_
              refine zz_iload_n (pc := 69) C dL_isForked_69 rfl ?_
              refine zz_callV (pc := 70) C (q_state l D hC1 f1 f2 t.1 (k := f)) gL_isForked_X2_state rfl 1 (by decide +kernel) ⟨Nat.le_of_ble_eq_true rfl, Nat.le_of_ble_eq_true rfl⟩ hC1.x (ci := 2) rfl rfl rfl dL_isForked_70 rfl (Nat.le_of_ble_eq_true rfl) rfl ⟨Nat.le_of_ble_eq_true rfl, Nat.le_of_ble_eq_true rfl⟩ ?_
              rintro v G9 ⟨rfl, rfl⟩
              refine zz_if_ne (pc := 73) C (tgt := 105) dL_isForked_73 (by decide) (fun hc73 => ?_) (fun hc73 => ?_)
              · exact absurd (zCon_0.mpr t.2.2.2.2.2.1) hc73
              · refine zz_aload_n (pc := 76) C dL_isForked_76 rfl ?_
                refine zz_iload_n (pc := 77) C dL_isForked_77 rfl ?_
                refine zz_callV (pc := 78) C (q_pending l D hC1 f1 f2 t.1 (k := f)) gL_isForked_X2_pending rfl 1 (by decide +kernel) ⟨Nat.le_of_ble_eq_true rfl, Nat.le_of_ble_eq_true rfl⟩ hC1.x (ci := 2) rfl rfl rfl dL_isForked_78 rfl (Nat.le_of_ble_eq_true rfl) rfl ⟨Nat.le_of_ble_eq_true rfl, Nat.le_of_ble_eq_true rfl⟩ ?_
                rintro v G9 ⟨rfl, rfl⟩
                refine zz_if_ne (pc := 81) C (tgt := 105) dL_isForked_81 (by decide) (fun hc81 => ?_) (fun hc81 => ?_)
                · exact absurd t.2.2.2.2.2.2.1 hc81
                · refine zz_aload_n (pc := 84) C dL_isForked_84 rfl ?_
                  refine zz_iload_n (pc := 85) C dL_isForked_85 rfl ?_
                  refine zz_callV (pc := 86) C (q_caught l D hC1 f1 f2 t.1 (k := f)) gL_isForked_X2_caught rfl 1 (by decide +kernel) ⟨Nat.le_of_ble_eq_true rfl, Nat.le_of_ble_eq_true rfl⟩ hC1.x (ci := 2) rfl rfl rfl dL_isForked_86 rfl (Nat.le_of_ble_eq_true rfl) rfl ⟨Nat.le_of_ble_eq_true rfl, Nat.le_of_ble_eq_true rfl⟩ ?_
                  rintro v G9 ⟨rfl, rfl⟩
                  refine zz_if_ne (pc := 89) C (tgt := 105) dL_isForked_89 (by decide) (fun hc89 => ?_) (fun hc89 => ?_)
                  · exact absurd t.2.2.2.2.2.2.2.1 hc89
                  · refine zz_aload_n (pc := 92) C dL_isForked_92 rfl ?_
                    refine zz_iload_n (pc := 93) C dL_isForked_93 rfl ?_
                    refine zz_callV (pc := 94) C (q_waitResult l D hC1 f1 f2 t.1 (k := f)) gL_isForked_X2_waitResult rfl 1 (by decide +kernel) ⟨Nat.le_of_ble_eq_true rfl, Nat.le_of_ble_eq_true rfl⟩ hC1.x (ci := 2) rfl rfl rfl dL_isForked_94 rfl (Nat.le_of_ble_eq_true rfl) rfl ⟨Nat.le_of_ble_eq_true rfl, Nat.le_of_ble_eq_true rfl⟩ ?_
                    rintro v G9 ⟨rfl, rfl⟩
                    refine zz_iconst (pc := 97) C (v := -1) (by decide) dL_isForked_97 ?_
                    refine zz_icmp_ne (pc := 98) C (tgt := 105) dL_isForked_98 (by decide) (fun hc98 => ?_) (fun hc98 => ?_)
                    · exact absurd t.2.2.2.2.2.2.2.2 hc98
                    · refine zz_iconst (pc := 101) C (v := 1) (by decide) dL_isForked_101 ?_
                      refine zz_goto (pc := 102) C (tgt := 106) dL_isForked_102 (by decide) ?_
                      exact zzx_ret (zz_ireturn (pc := 106) C dL_isForked_106 (by first | rfl | exact zb_nar) (Nat.le_of_ble_eq_true rfl) (Nat.le_of_ble_eq_true rfl) ⟨rfl, ⟨tb, ev, A9, hC1⟩⟩)
set_option maxHeartbeats 4000000 in
set_option maxRecDepth 100000 in
theorem c_L_isForked_n (l : Launch) (hl : l.stackTraces = false) (D : va_G) {B G : zG} {x tb ev : Nat} {A : Nat → Nat} {σ : zS} {m0 : Nat} (hC : zCl B x tb ev A σ [] 0 m0 G) {k9 : Nat} (hI : zIv 0 σ []) (h1 : 1 ≤ k9) (hk : k9 < 41) (h0 : σ 0 k9 ≠ 0) (hno : ¬ zRunN σ k9 ∨ zFreeV σ = -1) : zxMet D l yL_isForked wsL_isForked ({ frames := 12, cells := 20, slots := 120, locals := 340 } : Room) [.ref x, .int (nI k9)] G (fun v G9 => v = some (.int 1) ∧ zLq B x σ m0 G9) (fun _ => False) := by
  refine zxMet_of (cc := cL_isForked) (maxL := 4) (ret := (some .boolean)) (by decide) rfl (Nat.le_of_ble_eq_true rfl) ?_
  intro p e s m args below meth c C hnx h8
  have hW := hI.wf
  have hTH : zE2 (¬ zHere σ (nI k9)) (¬ zRunN σ (pn (nI k9)) ∨ zFreeV σ = -1) = 2 := zE2_2 (fun z => z (zHere_n h1 hk h0)) (by rw [pnn hk]; exact hno)
  have K17 : zV p l e ({ frames := 12, cells := 20, slots := 120, locals := 340 } : Room) s m args below meth c D (zA G s.heap.size) 0 0 (zxZ below D G (fun v G9 => v = some (.int 1) ∧ zLq B x σ m0 G9) (fun _ => False) args s ({ frames := 12, cells := 20, slots := 120, locals := 340 } : Room)) G 17 [some (.ref x), some (.int (nI k9)), none, none] [.int (-10)] := by
    refine zz_istore_n (pc := 17) C dL_isForked_17 (Nat.le_of_ble_eq_true rfl) ?_
    refine zV.less (L' := [some (.ref (x)), some (.int (nI k9)), some (.int (-10)), none]) ⟨rfl, rfl, rfl, trivial⟩ ?_
    refine zz_aload_n (pc := 18) C dL_isForked_18 rfl ?_
    refine zz_iload_n (pc := 19) C dL_isForked_19 rfl ?_
    refine zzx_callSW (pc := 20) C h8 ((c_L_forks l hl D (x9 := nI k9) hC hW).imp (fun _ _ z => z.elim (fun y => absurd (hTH.symm.trans y.1) (by decide)) (fun z => z.elim (fun y => absurd (hTH.symm.trans y.1) (by decide)) (fun z => z))) (fun _ z => z)) gL_isForked_L_forks rfl 2 (by decide +kernel) ⟨Nat.le_of_ble_eq_true rfl, Nat.le_of_ble_eq_true rfl⟩ rfl dL_isForked_20 rfl (Nat.le_of_ble_eq_true rfl) rfl ⟨Nat.le_of_ble_eq_true rfl, Nat.le_of_ble_eq_true rfl⟩ (fun E hE => hE.elim) ?_
    rintro v G9 ⟨_, rfl, rfl⟩
    refine zz_istore_n (pc := 23) C dL_isForked_23 (Nat.le_of_ble_eq_true rfl) ?_
    refine zV.less (L' := [some (.ref (x)), some (.int (nI k9)), some (.int (-10)), some (.int (-10))]) ⟨rfl, rfl, rfl, rfl, trivial⟩ ?_
    refine zz_iload_n (pc := 24) C dL_isForked_24 rfl ?_
    refine zz_iload_n (pc := 25) C dL_isForked_25 rfl ?_
    refine zz_icmp_ne (pc := 26) C (tgt := 105) dL_isForked_26 (by decide) (fun hc26 => ?_) (fun hc26 => ?_)
    · exact absurd rfl hc26
    · refine zz_iload_n (pc := 29) C dL_isForked_29 rfl ?_
      refine zz_if_lt (pc := 30) C (tgt := 101) dL_isForked_30 (by decide) (fun hc30 => ?_) (fun hc30 => ?_)
      · refine zz_iconst (pc := 101) C (v := 1) (by decide) dL_isForked_101 ?_
        refine zz_goto (pc := 102) C (tgt := 106) dL_isForked_102 (by decide) ?_
        exact zzx_ret (zz_ireturn (pc := 106) C dL_isForked_106 (by first | rfl | exact zb_nar) (Nat.le_of_ble_eq_true rfl) (Nat.le_of_ble_eq_true rfl) ⟨rfl, ⟨tb, ev, A, hC⟩⟩)
      · exact absurd (show (-10 : Int32) < 0 by decide) hc30
  refine zz_aload_n (pc := 0) C dL_isForked_0 rfl ?_
  refine zz_iload_n (pc := 1) C dL_isForked_1 rfl ?_
  refine zz_callV (pc := 2) C (q_state l D hC h1 hk h0) gL_isForked_X2_state rfl 1 (by decide +kernel) ⟨Nat.le_of_ble_eq_true rfl, Nat.le_of_ble_eq_true rfl⟩ hC.x (ci := 2) rfl rfl rfl dL_isForked_2 rfl (Nat.le_of_ble_eq_true rfl) rfl ⟨Nat.le_of_ble_eq_true rfl, Nat.le_of_ble_eq_true rfl⟩ ?_
  rintro v G9 ⟨rfl, rfl⟩
  refine zz_if_ne (pc := 5) C (tgt := 15) dL_isForked_5 (by decide) (fun hc5 => ?_) (fun hc5 => ?_)
  · refine zz_bipush (pc := 15) C (v := -10) (by decide) dL_isForked_15 ?_
    first
      | exact zV.top (by have h9 := hno.resolve_left (fun z => z (zCon_0.mp (Classical.not_not.mp hc5))); rw [if_pos h9]) K17
      | exact K17
  · refine zz_aload_n (pc := 8) C dL_isForked_8 rfl ?_
    refine zz_callS (pc := 9) C (c_L_free l D hC hW) gL_isForked_L_free rfl 1 (by decide +kernel) ⟨Nat.le_of_ble_eq_true rfl, Nat.le_of_ble_eq_true rfl⟩ rfl dL_isForked_9 rfl (Nat.le_of_ble_eq_true rfl) rfl ⟨Nat.le_of_ble_eq_true rfl, Nat.le_of_ble_eq_true rfl⟩ ?_
    rintro v G9 ⟨rfl, rfl⟩
    refine zz_goto (pc := 12) C (tgt := 17) dL_isForked_12 (by decide) ?_
    first
      | exact zV.top (by have h9 := hno.resolve_left (fun z => z (zCon_0.mp (Classical.not_not.mp hc5))); rw [if_pos h9]) K17
      | exact K17
theorem zLe1 {k : Nat} (h1 : 1 ≤ k) (hk : k < 41) (h : nI k ≤ 1) : k = 1 := by
  have := (nI_leI (a := k) (b := 1) (by omega) (by decide)).mp h
  omega
set_option maxHeartbeats 4000000 in
set_option maxRecDepth 100000 in
theorem c_L_isBegun_y (l : Launch) (hl : l.stackTraces = false) (D : va_G) {B G : zG} {x tb ev : Nat} {A : Nat → Nat} {σ : zS} {m0 : Nat} (hC : zCl B x tb ev A σ [] 0 m0 G) {k9 : Nat} (hI : zIv 0 σ []) (h1 : 1 ≤ k9) (hk : k9 < 41) (h0 : σ 0 k9 ≠ 0) (hb : zBI σ k9 41) : zxMet D l yL_isBegun wsL_isBegun ({ frames := 12, cells := 20, slots := 120, locals := 340 } : Room) [.ref x, .int (nI k9)] G (fun v G9 => v = some (.int 1) ∧ zLq B x (zu (zu σ 3 k9 (nI k9)) 2 k9 (nI k9)) m0 G9) (fun _ => False) := by
  refine zxMet_of (cc := cL_isBegun) (maxL := 4) (ret := (some .boolean)) (by decide) rfl (Nat.le_of_ble_eq_true rfl) ?_
  intro p e s m args below meth c C hnx h8
  have hW := hI.wf
  have hTH : zE2 (¬ zHere σ (nI k9)) (zNot σ (pn (nI k9)) ∨ zIsGrp σ (nI k9) 41) = 0 := zE2_0 (fun z => z (zHere_n h1 hk h0)) (by rw [pnn hk]; exact fun z => z.elim hb.1 hb.2)
  have t3 : (zu (zu σ 3 k9 (nI k9)) 2 k9 (nI k9)) 3 k9 = nI k9 := by simp [zu]
  have t2 : (zu (zu σ 3 k9 (nI k9)) 2 k9 (nI k9)) 2 k9 = nI k9 := zu_self
  have loop : ∀ (n i : Nat), i + n = 41 → 1 ≤ i → zV p l e ({ frames := 12, cells := 20, slots := 120, locals := 340 } : Room) s m args below meth c D (zA G s.heap.size) 0 0 (zxZ below D G (fun v G9 => v = some (.int 1) ∧ zLq B x (zu (zu σ 3 k9 (nI k9)) 2 k9 (nI k9)) m0 G9) (fun _ => False) args s ({ frames := 12, cells := 20, slots := 120, locals := 340 } : Room)) G 21 [some (.ref x), some (.int (nI k9)), some (.int (zb (zBI σ k9 i))), some (.int (nI (i)))] [] := by
    intro n
    induction n with
    | zero =>
      intro i hi hi1
      have hi41 : i = 41 := by omega
      subst hi41
      refine zz_iload_n (pc := 21) C dL_isBegun_21 rfl ?_
      refine zz_bipush (pc := 22) C (v := 41) (by decide) dL_isBegun_22 ?_
      refine zz_icmp_ge (pc := 24) C (tgt := 60) dL_isBegun_24 (by decide) (fun hc24 => ?_) (fun hc24 => ?_)
      · refine zz_aload_n (pc := 60) C dL_isBegun_60 rfl ?_
        refine zz_iload_n (pc := 61) C dL_isBegun_61 rfl ?_
        refine zz_callV (pc := 62) C (q_session l D hC h1 hk h0) gL_isBegun_X2_session rfl 1 (by decide +kernel) ⟨Nat.le_of_ble_eq_true rfl, Nat.le_of_ble_eq_true rfl⟩ hC.x (ci := 2) rfl rfl rfl dL_isBegun_62 rfl (Nat.le_of_ble_eq_true rfl) rfl ⟨Nat.le_of_ble_eq_true rfl, Nat.le_of_ble_eq_true rfl⟩ ?_
        rintro v G9 ⟨rfl, rfl⟩
        refine zz_istore_n (pc := 65) C dL_isBegun_65 (Nat.le_of_ble_eq_true rfl) ?_
        refine zV.less (L' := [some (.ref (x)), some (.int (nI k9)), some (.int (zb (zBI σ k9 41))), some (.int (σ 3 k9))]) ⟨rfl, rfl, rfl, rfl, trivial⟩ ?_
        refine zz_aload_n (pc := 66) C dL_isBegun_66 rfl ?_
        refine zz_iload_n (pc := 67) C dL_isBegun_67 rfl ?_
        refine zzx_callSW (pc := 68) C h8 ((c_L_begins l hl D (x9 := nI k9) hC).imp (fun _ _ z => z.elim id (fun z => z.elim (fun y => absurd (hTH.symm.trans y.1) (by decide)) (fun z => absurd (hTH.symm.trans z.1) (by decide)))) (fun _ z => z)) gL_isBegun_L_begins rfl 2 (by decide +kernel) ⟨Nat.le_of_ble_eq_true rfl, Nat.le_of_ble_eq_true rfl⟩ rfl dL_isBegun_68 rfl (Nat.le_of_ble_eq_true rfl) rfl ⟨Nat.le_of_ble_eq_true rfl, Nat.le_of_ble_eq_true rfl⟩ (fun E hE => hE.elim) ?_
        rintro v G9 ⟨_, rfl, hC1⟩
        rw [pnn hk] at hC1
        refine zz_iload_n (pc := 71) C dL_isBegun_71 rfl ?_
        refine zz_if_eq (pc := 72) C (tgt := 79) dL_isBegun_72 (by decide) (fun hc72 => ?_) (fun hc72 => ?_)
        · exact False.elim (zb_eq.mp hc72 hb)
        · refine zz_iconst (pc := 75) C (v := 0) (by decide) dL_isBegun_75 ?_
          refine zz_goto (pc := 76) C (tgt := 81) dL_isBegun_76 (by decide) ?_
          refine zz_icmp_ne (pc := 81) C (tgt := 118) dL_isBegun_81 (by decide) (fun hc81 => ?_) (fun hc81 => ?_)
          · exact absurd rfl hc81
          · refine zz_aload_n (pc := 84) C dL_isBegun_84 rfl ?_
            refine zz_iload_n (pc := 85) C dL_isBegun_85 rfl ?_
            refine zz_callV (pc := 86) C (q_session l D hC1 h1 hk h0 (k := k9)) gL_isBegun_X2_session rfl 1 (by decide +kernel) ⟨Nat.le_of_ble_eq_true rfl, Nat.le_of_ble_eq_true rfl⟩ hC1.x (ci := 2) rfl rfl rfl dL_isBegun_86 rfl (Nat.le_of_ble_eq_true rfl) rfl ⟨Nat.le_of_ble_eq_true rfl, Nat.le_of_ble_eq_true rfl⟩ ?_
            rintro v G9 ⟨rfl, rfl⟩
            refine zz_iload_n (pc := 89) C dL_isBegun_89 rfl ?_
            refine zz_if_eq (pc := 90) C (tgt := 97) dL_isBegun_90 (by decide) (fun hc90 => ?_) (fun hc90 => ?_)
            · exact False.elim (zb_eq.mp hc90 hb)
            · refine zz_iload_n (pc := 93) C dL_isBegun_93 rfl ?_
              refine zz_goto (pc := 94) C (tgt := 98) dL_isBegun_94 (by decide) ?_
              refine zz_icmp_ne (pc := 98) C (tgt := 118) dL_isBegun_98 (by decide) (fun hc98 => ?_) (fun hc98 => ?_)
              · exact absurd t3 hc98
              · refine zz_iload_n (pc := 101) C dL_isBegun_101 rfl ?_
                refine zz_if_eq (pc := 102) C (tgt := 114) dL_isBegun_102 (by decide) (fun hc102 => ?_) (fun hc102 => ?_)
                · exact False.elim (zb_eq.mp hc102 hb)
                · refine zz_aload_n (pc := 105) C dL_isBegun_105 rfl ?_
                  refine zz_iload_n (pc := 106) C dL_isBegun_106 rfl ?_
                  refine zz_callV (pc := 107) C (q_group l D hC1 h1 hk h0 (k := k9)) gL_isBegun_X2_group rfl 1 (by decide +kernel) ⟨Nat.le_of_ble_eq_true rfl, Nat.le_of_ble_eq_true rfl⟩ hC1.x (ci := 2) rfl rfl rfl dL_isBegun_107 rfl (Nat.le_of_ble_eq_true rfl) rfl ⟨Nat.le_of_ble_eq_true rfl, Nat.le_of_ble_eq_true rfl⟩ ?_
                  rintro v G9 ⟨rfl, rfl⟩
                  refine zz_iload_n (pc := 110) C dL_isBegun_110 rfl ?_
                  refine zz_icmp_ne (pc := 111) C (tgt := 118) dL_isBegun_111 (by decide) (fun hc111 => ?_) (fun hc111 => ?_)
                  · exact absurd t2 hc111
                  · refine zz_iconst (pc := 114) C (v := 1) (by decide) dL_isBegun_114 ?_
                    refine zz_goto (pc := 115) C (tgt := 119) dL_isBegun_115 (by decide) ?_
                    exact zzx_ret (zz_ireturn (pc := 119) C dL_isBegun_119 (by first | rfl | exact zb_nar) (Nat.le_of_ble_eq_true rfl) (Nat.le_of_ble_eq_true rfl) ⟨rfl, ⟨tb, ev, A, hC1⟩⟩)
      · exact absurd z41c hc24
    | succ n ih =>
      intro i hi hi1
      have K53 : zV p l e ({ frames := 12, cells := 20, slots := 120, locals := 340 } : Room) s m args below meth c D (zA G s.heap.size) 0 0 (zxZ below D G (fun v G9 => v = some (.int 1) ∧ zLq B x (zu (zu σ 3 k9 (nI k9)) 2 k9 (nI k9)) m0 G9) (fun _ => False) args s ({ frames := 12, cells := 20, slots := 120, locals := 340 } : Room)) G 53 [some (.ref x), some (.int (nI k9)), some (.int (zb (zBI σ k9 i))), some (.int (nI (i)))] [.int (zb (zBI σ k9 (i + 1)))] := by
        refine zz_istore_n (pc := 53) C dL_isBegun_53 (Nat.le_of_ble_eq_true rfl) ?_
        refine zV.less (L' := [some (.ref (x)), some (.int (nI k9)), some (.int (zb (zBI σ k9 (i + 1)))), some (.int (nI (i)))]) ⟨rfl, rfl, rfl, rfl, trivial⟩ ?_
        refine zz_iinc (pc := 54) C dL_isBegun_54 rfl ?_
        refine zV.less (L' := [some (.ref (x)), some (.int (nI k9)), some (.int (zb (zBI σ k9 (i + 1)))), some (.int (nI (i + 1)))]) ⟨rfl, rfl, rfl, zvi (z1i i), trivial⟩ ?_
        refine zz_goto (pc := 57) C (tgt := 21) dL_isBegun_57 (by decide) ?_
        exact ih (i + 1) (by omega) (by omega)
      refine zz_iload_n (pc := 21) C dL_isBegun_21 rfl ?_
      refine zz_bipush (pc := 22) C (v := 41) (by decide) dL_isBegun_22 ?_
      refine zz_icmp_ge (pc := 24) C (tgt := 60) dL_isBegun_24 (by decide) (fun hc24 => ?_) (fun hc24 => ?_)
      · exact absurd hc24 (z41b (by omega))
      · refine zz_iload_n (pc := 27) C dL_isBegun_27 rfl ?_
        refine zz_if_eq (pc := 28) C (tgt := 52) dL_isBegun_28 (by decide) (fun hc28 => ?_) (fun hc28 => ?_)
        · refine zz_iconst (pc := 52) C (v := 0) (by decide) dL_isBegun_52 ?_
          exact zV.less (L' := [some (.ref x), some (.int (nI k9)), some (.int (zb (zBI σ k9 i))), some (.int (nI (i)))]) ⟨rfl, rfl, rfl, rfl, trivial⟩ (zV.topK K53 ((zb_f (fun z => zb_eq.mp hc28 (zBI_d z))).symm))
        · refine zz_aload_n (pc := 31) C dL_isBegun_31 rfl ?_
          refine zz_iload_n (pc := 32) C dL_isBegun_32 rfl ?_
          refine zz_callV (pc := 33) C (q_exists l D hC (by omega) (by omega)) gL_isBegun_X2_exists rfl 1 (by decide +kernel) ⟨Nat.le_of_ble_eq_true rfl, Nat.le_of_ble_eq_true rfl⟩ hC.x (ci := 2) rfl rfl rfl dL_isBegun_33 rfl (Nat.le_of_ble_eq_true rfl) rfl ⟨Nat.le_of_ble_eq_true rfl, Nat.le_of_ble_eq_true rfl⟩ ?_
          rintro v G9 ⟨rfl, rfl⟩
          refine zz_if_eq (pc := 36) C (tgt := 48) dL_isBegun_36 (by decide) (fun hc36 => ?_) (fun hc36 => ?_)
          · refine zz_iconst (pc := 48) C (v := 1) (by decide) dL_isBegun_48 ?_
            refine zz_goto (pc := 49) C (tgt := 53) dL_isBegun_49 (by decide) ?_
            exact zV.less (L' := [some (.ref x), some (.int (nI k9)), some (.int (zb (zBI σ k9 i))), some (.int (nI (i)))]) ⟨rfl, rfl, rfl, rfl, trivial⟩ (zV.topK K53 ((zb_t (zBI_1 (fun z => zb_eq.mp hc36 z.1) (zbp hc28))).symm))
          · refine zz_aload_n (pc := 39) C dL_isBegun_39 rfl ?_
            refine zz_iload_n (pc := 40) C dL_isBegun_40 rfl ?_
            refine zz_callV (pc := 41) C (q_group l D hC (by omega) (by omega) (zbp hc36)) gL_isBegun_X2_group rfl 1 (by decide +kernel) ⟨Nat.le_of_ble_eq_true rfl, Nat.le_of_ble_eq_true rfl⟩ hC.x (ci := 2) rfl rfl rfl dL_isBegun_41 rfl (Nat.le_of_ble_eq_true rfl) rfl ⟨Nat.le_of_ble_eq_true rfl, Nat.le_of_ble_eq_true rfl⟩ ?_
            rintro v G9 ⟨rfl, rfl⟩
            refine zz_iload_n (pc := 44) C dL_isBegun_44 rfl ?_
            refine zz_icmp_eq (pc := 45) C (tgt := 52) dL_isBegun_45 (by decide) (fun hc45 => ?_) (fun hc45 => ?_)
            · refine zz_iconst (pc := 52) C (v := 0) (by decide) dL_isBegun_52 ?_
              exact zV.less (L' := [some (.ref x), some (.int (nI k9)), some (.int (zb (zBI σ k9 i))), some (.int (nI (i)))]) ⟨rfl, rfl, rfl, rfl, trivial⟩ (zV.topK K53 ((zb_f (fun z => zBI_x z ⟨zbp hc36, hc45⟩)).symm))
            · refine zz_iconst (pc := 48) C (v := 1) (by decide) dL_isBegun_48 ?_
              refine zz_goto (pc := 49) C (tgt := 53) dL_isBegun_49 (by decide) ?_
              exact zV.less (L' := [some (.ref x), some (.int (nI k9)), some (.int (zb (zBI σ k9 i))), some (.int (nI (i)))]) ⟨rfl, rfl, rfl, rfl, trivial⟩ (zV.topK K53 ((zb_t (zBI_1 (fun z => hc45 z.2) (zbp hc28))).symm))
  have K18 : zV p l e ({ frames := 12, cells := 20, slots := 120, locals := 340 } : Room) s m args below meth c D (zA G s.heap.size) 0 0 (zxZ below D G (fun v G9 => v = some (.int 1) ∧ zLq B x (zu (zu σ 3 k9 (nI k9)) 2 k9 (nI k9)) m0 G9) (fun _ => False) args s ({ frames := 12, cells := 20, slots := 120, locals := 340 } : Room)) G 18 [some (.ref x), some (.int (nI k9)), none, none] [.int (zb (¬ zNot σ k9))] := by
    refine zz_istore_n (pc := 18) C dL_isBegun_18 (Nat.le_of_ble_eq_true rfl) ?_
    refine zV.less (L' := [some (.ref (x)), some (.int (nI k9)), some (.int (zb (¬ zNot σ k9))), none]) ⟨rfl, rfl, rfl, trivial⟩ ?_
    refine zz_iconst (pc := 19) C (v := 1) (by decide) dL_isBegun_19 ?_
    refine zz_istore_n (pc := 20) C dL_isBegun_20 (Nat.le_of_ble_eq_true rfl) ?_
    refine zV.less (L' := [some (.ref (x)), some (.int (nI k9)), some (.int (zb (¬ zNot σ k9))), some (.int (nI 1))]) ⟨rfl, rfl, rfl, rfl, trivial⟩ ?_
    exact zV.less (L' := [some (.ref x), some (.int (nI k9)), some (.int (zb (zBI σ k9 1))), some (.int (nI (1)))]) ⟨rfl, rfl, zvi (zb_congr ⟨fun z => ⟨z, fun y => y (fun j hj w => w.1 (by rw [show j = 0 by omega]; exact hW.z))⟩, fun z => z.1⟩), rfl, trivial⟩ (loop 40 1 rfl (by omega))
  refine zz_iload_n (pc := 0) C dL_isBegun_0 rfl ?_
  refine zz_iconst (pc := 1) C (v := 1) (by decide) dL_isBegun_1 ?_
  refine zz_icmp_le (pc := 2) C (tgt := 17) dL_isBegun_2 (by decide) (fun hc2 => ?_) (fun hc2 => ?_)
  · refine zz_iconst (pc := 17) C (v := 0) (by decide) dL_isBegun_17 ?_
    exact zV.less (L' := [some (.ref x), some (.int (nI k9)), none, none]) ⟨rfl, rfl, trivial⟩ (zV.topK K18 ((zb_f (fun z => z (Or.inl (zLe1 h1 hk hc2)))).symm))
  · refine zz_aload_n (pc := 5) C dL_isBegun_5 rfl ?_
    refine zz_iload_n (pc := 6) C dL_isBegun_6 rfl ?_
    refine zz_callV (pc := 7) C (q_state l D hC h1 hk h0) gL_isBegun_X2_state rfl 1 (by decide +kernel) ⟨Nat.le_of_ble_eq_true rfl, Nat.le_of_ble_eq_true rfl⟩ hC.x (ci := 2) rfl rfl rfl dL_isBegun_7 rfl (Nat.le_of_ble_eq_true rfl) rfl ⟨Nat.le_of_ble_eq_true rfl, Nat.le_of_ble_eq_true rfl⟩ ?_
    rintro v G9 ⟨rfl, rfl⟩
    refine zz_if_ne (pc := 10) C (tgt := 17) dL_isBegun_10 (by decide) (fun hc10 => ?_) (fun hc10 => ?_)
    · refine zz_iconst (pc := 17) C (v := 0) (by decide) dL_isBegun_17 ?_
      exact zV.less (L' := [some (.ref x), some (.int (nI k9)), none, none]) ⟨rfl, rfl, trivial⟩ (zV.topK K18 ((zb_f (fun z => z (Or.inr (fun y => hc10 (zCon_0.mpr y))))).symm))
    · refine zz_iconst (pc := 13) C (v := 1) (by decide) dL_isBegun_13 ?_
      refine zz_goto (pc := 14) C (tgt := 18) dL_isBegun_14 (by decide) ?_
      exact zV.less (L' := [some (.ref x), some (.int (nI k9)), none, none]) ⟨rfl, rfl, trivial⟩ (zV.topK K18 ((zb_t (show ¬ zNot σ k9 from fun z => z.elim (fun y => hc2 (by rw [y]; decide)) (fun y => y (zCon_0.mp (Classical.not_not.mp hc10))))).symm))
set_option maxHeartbeats 4000000 in
set_option maxRecDepth 100000 in
theorem c_L_isBegun_n (l : Launch) (hl : l.stackTraces = false) (D : va_G) {B G : zG} {x tb ev : Nat} {A : Nat → Nat} {σ : zS} {m0 : Nat} (hC : zCl B x tb ev A σ [] 0 m0 G) {k9 : Nat} (hI : zIv 0 σ []) (h1 : 1 ≤ k9) (hk : k9 < 41) (h0 : σ 0 k9 ≠ 0) (hb : ¬ (zBI σ k9 41)) : zxMet D l yL_isBegun wsL_isBegun ({ frames := 12, cells := 20, slots := 120, locals := 340 } : Room) [.ref x, .int (nI k9)] G (fun v G9 => v = some (.int 1) ∧ zLq B x (σ) m0 G9) (fun _ => False) := by
  refine zxMet_of (cc := cL_isBegun) (maxL := 4) (ret := (some .boolean)) (by decide) rfl (Nat.le_of_ble_eq_true rfl) ?_
  intro p e s m args below meth c C hnx h8
  have hW := hI.wf
  have hTH : zE2 (¬ zHere σ (nI k9)) (zNot σ (pn (nI k9)) ∨ zIsGrp σ (nI k9) 41) = 2 := zE2_2 (fun z => z (zHere_n h1 hk h0)) (by rw [pnn hk]; by_cases z : zNot σ k9; exact Or.inl z; by_cases y : zIsGrp σ (nI k9) 41; exact Or.inr y; exact absurd ⟨z, y⟩ hb)
  have loop : ∀ (n i : Nat), i + n = 41 → 1 ≤ i → zV p l e ({ frames := 12, cells := 20, slots := 120, locals := 340 } : Room) s m args below meth c D (zA G s.heap.size) 0 0 (zxZ below D G (fun v G9 => v = some (.int 1) ∧ zLq B x (σ) m0 G9) (fun _ => False) args s ({ frames := 12, cells := 20, slots := 120, locals := 340 } : Room)) G 21 [some (.ref x), some (.int (nI k9)), some (.int (zb (zBI σ k9 i))), some (.int (nI (i)))] [] := by
    intro n
    induction n with
    | zero =>
      intro i hi hi1
      have hi41 : i = 41 := by omega
      subst hi41
      refine zz_iload_n (pc := 21) C dL_isBegun_21 rfl ?_
      refine zz_bipush (pc := 22) C (v := 41) (by decide) dL_isBegun_22 ?_
      refine zz_icmp_ge (pc := 24) C (tgt := 60) dL_isBegun_24 (by decide) (fun hc24 => ?_) (fun hc24 => ?_)
      · refine zz_aload_n (pc := 60) C dL_isBegun_60 rfl ?_
        refine zz_iload_n (pc := 61) C dL_isBegun_61 rfl ?_
        refine zz_callV (pc := 62) C (q_session l D hC h1 hk h0) gL_isBegun_X2_session rfl 1 (by decide +kernel) ⟨Nat.le_of_ble_eq_true rfl, Nat.le_of_ble_eq_true rfl⟩ hC.x (ci := 2) rfl rfl rfl dL_isBegun_62 rfl (Nat.le_of_ble_eq_true rfl) rfl ⟨Nat.le_of_ble_eq_true rfl, Nat.le_of_ble_eq_true rfl⟩ ?_
        rintro v G9 ⟨rfl, rfl⟩
        refine zz_istore_n (pc := 65) C dL_isBegun_65 (Nat.le_of_ble_eq_true rfl) ?_
        refine zV.less (L' := [some (.ref (x)), some (.int (nI k9)), some (.int (zb (zBI σ k9 41))), some (.int (σ 3 k9))]) ⟨rfl, rfl, rfl, rfl, trivial⟩ ?_
        refine zz_aload_n (pc := 66) C dL_isBegun_66 rfl ?_
        refine zz_iload_n (pc := 67) C dL_isBegun_67 rfl ?_
        refine zzx_callSW (pc := 68) C h8 ((c_L_begins l hl D (x9 := nI k9) hC).imp (fun _ _ z => z.elim (fun y => absurd (hTH.symm.trans y.1) (by decide)) (fun z => z.elim (fun y => absurd (hTH.symm.trans y.1) (by decide)) (fun z => z))) (fun _ z => z)) gL_isBegun_L_begins rfl 2 (by decide +kernel) ⟨Nat.le_of_ble_eq_true rfl, Nat.le_of_ble_eq_true rfl⟩ rfl dL_isBegun_68 rfl (Nat.le_of_ble_eq_true rfl) rfl ⟨Nat.le_of_ble_eq_true rfl, Nat.le_of_ble_eq_true rfl⟩ (fun E hE => hE.elim) ?_
        rintro v G9 ⟨_, rfl, rfl⟩
        refine zz_iload_n (pc := 71) C dL_isBegun_71 rfl ?_
        refine zz_if_eq (pc := 72) C (tgt := 79) dL_isBegun_72 (by decide) (fun hc72 => ?_) (fun hc72 => ?_)
        · refine zz_bipush (pc := 79) C (v := -10) (by decide) dL_isBegun_79 ?_
          refine zz_icmp_ne (pc := 81) C (tgt := 118) dL_isBegun_81 (by decide) (fun hc81 => ?_) (fun hc81 => ?_)
          · exact absurd rfl hc81
          · refine zz_aload_n (pc := 84) C dL_isBegun_84 rfl ?_
            refine zz_iload_n (pc := 85) C dL_isBegun_85 rfl ?_
            refine zz_callV (pc := 86) C (q_session l D hC h1 hk h0) gL_isBegun_X2_session rfl 1 (by decide +kernel) ⟨Nat.le_of_ble_eq_true rfl, Nat.le_of_ble_eq_true rfl⟩ hC.x (ci := 2) rfl rfl rfl dL_isBegun_86 rfl (Nat.le_of_ble_eq_true rfl) rfl ⟨Nat.le_of_ble_eq_true rfl, Nat.le_of_ble_eq_true rfl⟩ ?_
            rintro v G9 ⟨rfl, rfl⟩
            refine zz_iload_n (pc := 89) C dL_isBegun_89 rfl ?_
            refine zz_if_eq (pc := 90) C (tgt := 97) dL_isBegun_90 (by decide) (fun hc90 => ?_) (fun hc90 => ?_)
            · refine zz_iload_n (pc := 97) C dL_isBegun_97 rfl ?_
              refine zz_icmp_ne (pc := 98) C (tgt := 118) dL_isBegun_98 (by decide) (fun hc98 => ?_) (fun hc98 => ?_)
              · exact absurd rfl hc98
              · refine zz_iload_n (pc := 101) C dL_isBegun_101 rfl ?_
                refine zz_if_eq (pc := 102) C (tgt := 114) dL_isBegun_102 (by decide) (fun hc102 => ?_) (fun hc102 => ?_)
                · refine zz_iconst (pc := 114) C (v := 1) (by decide) dL_isBegun_114 ?_
                  refine zz_goto (pc := 115) C (tgt := 119) dL_isBegun_115 (by decide) ?_
                  exact zzx_ret (zz_ireturn (pc := 119) C dL_isBegun_119 (by first | rfl | exact zb_nar) (Nat.le_of_ble_eq_true rfl) (Nat.le_of_ble_eq_true rfl) ⟨rfl, ⟨tb, ev, A, hC⟩⟩)
                · exact absurd (zbp hc102) hb
            · exact absurd (zbp hc90) hb
        · exact absurd (zbp hc72) hb
      · exact absurd z41c hc24
    | succ n ih =>
      intro i hi hi1
      have K53 : zV p l e ({ frames := 12, cells := 20, slots := 120, locals := 340 } : Room) s m args below meth c D (zA G s.heap.size) 0 0 (zxZ below D G (fun v G9 => v = some (.int 1) ∧ zLq B x (σ) m0 G9) (fun _ => False) args s ({ frames := 12, cells := 20, slots := 120, locals := 340 } : Room)) G 53 [some (.ref x), some (.int (nI k9)), some (.int (zb (zBI σ k9 i))), some (.int (nI (i)))] [.int (zb (zBI σ k9 (i + 1)))] := by
        refine zz_istore_n (pc := 53) C dL_isBegun_53 (Nat.le_of_ble_eq_true rfl) ?_
        refine zV.less (L' := [some (.ref (x)), some (.int (nI k9)), some (.int (zb (zBI σ k9 (i + 1)))), some (.int (nI (i)))]) ⟨rfl, rfl, rfl, rfl, trivial⟩ ?_
        refine zz_iinc (pc := 54) C dL_isBegun_54 rfl ?_
        refine zV.less (L' := [some (.ref (x)), some (.int (nI k9)), some (.int (zb (zBI σ k9 (i + 1)))), some (.int (nI (i + 1)))]) ⟨rfl, rfl, rfl, zvi (z1i i), trivial⟩ ?_
        refine zz_goto (pc := 57) C (tgt := 21) dL_isBegun_57 (by decide) ?_
        exact ih (i + 1) (by omega) (by omega)
      refine zz_iload_n (pc := 21) C dL_isBegun_21 rfl ?_
      refine zz_bipush (pc := 22) C (v := 41) (by decide) dL_isBegun_22 ?_
      refine zz_icmp_ge (pc := 24) C (tgt := 60) dL_isBegun_24 (by decide) (fun hc24 => ?_) (fun hc24 => ?_)
      · exact absurd hc24 (z41b (by omega))
      · refine zz_iload_n (pc := 27) C dL_isBegun_27 rfl ?_
        refine zz_if_eq (pc := 28) C (tgt := 52) dL_isBegun_28 (by decide) (fun hc28 => ?_) (fun hc28 => ?_)
        · refine zz_iconst (pc := 52) C (v := 0) (by decide) dL_isBegun_52 ?_
          exact zV.less (L' := [some (.ref x), some (.int (nI k9)), some (.int (zb (zBI σ k9 i))), some (.int (nI (i)))]) ⟨rfl, rfl, rfl, rfl, trivial⟩ (zV.topK K53 ((zb_f (fun z => zb_eq.mp hc28 (zBI_d z))).symm))
        · refine zz_aload_n (pc := 31) C dL_isBegun_31 rfl ?_
          refine zz_iload_n (pc := 32) C dL_isBegun_32 rfl ?_
          refine zz_callV (pc := 33) C (q_exists l D hC (by omega) (by omega)) gL_isBegun_X2_exists rfl 1 (by decide +kernel) ⟨Nat.le_of_ble_eq_true rfl, Nat.le_of_ble_eq_true rfl⟩ hC.x (ci := 2) rfl rfl rfl dL_isBegun_33 rfl (Nat.le_of_ble_eq_true rfl) rfl ⟨Nat.le_of_ble_eq_true rfl, Nat.le_of_ble_eq_true rfl⟩ ?_
          rintro v G9 ⟨rfl, rfl⟩
          refine zz_if_eq (pc := 36) C (tgt := 48) dL_isBegun_36 (by decide) (fun hc36 => ?_) (fun hc36 => ?_)
          · refine zz_iconst (pc := 48) C (v := 1) (by decide) dL_isBegun_48 ?_
            refine zz_goto (pc := 49) C (tgt := 53) dL_isBegun_49 (by decide) ?_
            exact zV.less (L' := [some (.ref x), some (.int (nI k9)), some (.int (zb (zBI σ k9 i))), some (.int (nI (i)))]) ⟨rfl, rfl, rfl, rfl, trivial⟩ (zV.topK K53 ((zb_t (zBI_1 (fun z => zb_eq.mp hc36 z.1) (zbp hc28))).symm))
          · refine zz_aload_n (pc := 39) C dL_isBegun_39 rfl ?_
            refine zz_iload_n (pc := 40) C dL_isBegun_40 rfl ?_
            refine zz_callV (pc := 41) C (q_group l D hC (by omega) (by omega) (zbp hc36)) gL_isBegun_X2_group rfl 1 (by decide +kernel) ⟨Nat.le_of_ble_eq_true rfl, Nat.le_of_ble_eq_true rfl⟩ hC.x (ci := 2) rfl rfl rfl dL_isBegun_41 rfl (Nat.le_of_ble_eq_true rfl) rfl ⟨Nat.le_of_ble_eq_true rfl, Nat.le_of_ble_eq_true rfl⟩ ?_
            rintro v G9 ⟨rfl, rfl⟩
            refine zz_iload_n (pc := 44) C dL_isBegun_44 rfl ?_
            refine zz_icmp_eq (pc := 45) C (tgt := 52) dL_isBegun_45 (by decide) (fun hc45 => ?_) (fun hc45 => ?_)
            · refine zz_iconst (pc := 52) C (v := 0) (by decide) dL_isBegun_52 ?_
              exact zV.less (L' := [some (.ref x), some (.int (nI k9)), some (.int (zb (zBI σ k9 i))), some (.int (nI (i)))]) ⟨rfl, rfl, rfl, rfl, trivial⟩ (zV.topK K53 ((zb_f (fun z => zBI_x z ⟨zbp hc36, hc45⟩)).symm))
            · refine zz_iconst (pc := 48) C (v := 1) (by decide) dL_isBegun_48 ?_
              refine zz_goto (pc := 49) C (tgt := 53) dL_isBegun_49 (by decide) ?_
              exact zV.less (L' := [some (.ref x), some (.int (nI k9)), some (.int (zb (zBI σ k9 i))), some (.int (nI (i)))]) ⟨rfl, rfl, rfl, rfl, trivial⟩ (zV.topK K53 ((zb_t (zBI_1 (fun z => hc45 z.2) (zbp hc28))).symm))
  have K18 : zV p l e ({ frames := 12, cells := 20, slots := 120, locals := 340 } : Room) s m args below meth c D (zA G s.heap.size) 0 0 (zxZ below D G (fun v G9 => v = some (.int 1) ∧ zLq B x (σ) m0 G9) (fun _ => False) args s ({ frames := 12, cells := 20, slots := 120, locals := 340 } : Room)) G 18 [some (.ref x), some (.int (nI k9)), none, none] [.int (zb (¬ zNot σ k9))] := by
    refine zz_istore_n (pc := 18) C dL_isBegun_18 (Nat.le_of_ble_eq_true rfl) ?_
    refine zV.less (L' := [some (.ref (x)), some (.int (nI k9)), some (.int (zb (¬ zNot σ k9))), none]) ⟨rfl, rfl, rfl, trivial⟩ ?_
    refine zz_iconst (pc := 19) C (v := 1) (by decide) dL_isBegun_19 ?_
    refine zz_istore_n (pc := 20) C dL_isBegun_20 (Nat.le_of_ble_eq_true rfl) ?_
    refine zV.less (L' := [some (.ref (x)), some (.int (nI k9)), some (.int (zb (¬ zNot σ k9))), some (.int (nI 1))]) ⟨rfl, rfl, rfl, rfl, trivial⟩ ?_
    exact zV.less (L' := [some (.ref x), some (.int (nI k9)), some (.int (zb (zBI σ k9 1))), some (.int (nI (1)))]) ⟨rfl, rfl, zvi (zb_congr ⟨fun z => ⟨z, fun y => y (fun j hj w => w.1 (by rw [show j = 0 by omega]; exact hW.z))⟩, fun z => z.1⟩), rfl, trivial⟩ (loop 40 1 rfl (by omega))
  refine zz_iload_n (pc := 0) C dL_isBegun_0 rfl ?_
  refine zz_iconst (pc := 1) C (v := 1) (by decide) dL_isBegun_1 ?_
  refine zz_icmp_le (pc := 2) C (tgt := 17) dL_isBegun_2 (by decide) (fun hc2 => ?_) (fun hc2 => ?_)
  · refine zz_iconst (pc := 17) C (v := 0) (by decide) dL_isBegun_17 ?_
    exact zV.less (L' := [some (.ref x), some (.int (nI k9)), none, none]) ⟨rfl, rfl, trivial⟩ (zV.topK K18 ((zb_f (fun z => z (Or.inl (zLe1 h1 hk hc2)))).symm))
  · refine zz_aload_n (pc := 5) C dL_isBegun_5 rfl ?_
    refine zz_iload_n (pc := 6) C dL_isBegun_6 rfl ?_
    refine zz_callV (pc := 7) C (q_state l D hC h1 hk h0) gL_isBegun_X2_state rfl 1 (by decide +kernel) ⟨Nat.le_of_ble_eq_true rfl, Nat.le_of_ble_eq_true rfl⟩ hC.x (ci := 2) rfl rfl rfl dL_isBegun_7 rfl (Nat.le_of_ble_eq_true rfl) rfl ⟨Nat.le_of_ble_eq_true rfl, Nat.le_of_ble_eq_true rfl⟩ ?_
    rintro v G9 ⟨rfl, rfl⟩
    refine zz_if_ne (pc := 10) C (tgt := 17) dL_isBegun_10 (by decide) (fun hc10 => ?_) (fun hc10 => ?_)
    · refine zz_iconst (pc := 17) C (v := 0) (by decide) dL_isBegun_17 ?_
      exact zV.less (L' := [some (.ref x), some (.int (nI k9)), none, none]) ⟨rfl, rfl, trivial⟩ (zV.topK K18 ((zb_f (fun z => z (Or.inr (fun y => hc10 (zCon_0.mpr y))))).symm))
    · refine zz_iconst (pc := 13) C (v := 1) (by decide) dL_isBegun_13 ?_
      refine zz_goto (pc := 14) C (tgt := 18) dL_isBegun_14 (by decide) ?_
      exact zV.less (L' := [some (.ref x), some (.int (nI k9)), none, none]) ⟨rfl, rfl, trivial⟩ (zV.topK K18 ((zb_t (show ¬ zNot σ k9 from fun z => z.elim (fun y => hc2 (by rw [y]; decide)) (fun y => y (zCon_0.mp (Classical.not_not.mp hc10))))).symm))
