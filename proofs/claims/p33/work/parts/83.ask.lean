/-! the law's own methods that only ask -/
section ZDR
variable {p : Program} {l : Launch} {e : Env} {R : Room} {s : State} {m : MethodId} {args : Array Value} {below : List Frame} {meth : Method} {c : Code} {D : va_G} {A : Nat → Prop} {cells slots : Nat} {Q : State → Prop} {G : zG} {pc : Nat} {L : List (Option Value)} {st : List Value}
variable {cc : ByteArray} {nL : Nat} {own : String} {Ts : List Cond} {ret : Option FieldType}
theorem zz_irem (C : zC p s m args meth c D A cc nL own Ts ret) {x y : Int32} {a d : Nat} (hdg : decode cc pc = .ok (.irem, 1)) (hx : x = nI a) (hy : y = nI d) (ha : a < 2 ^ 31) (h0 : 0 < d) (hd : d < 2 ^ 31) (kk : zV p l e R s m args below meth c D A cells slots Q G (pc + 1) L (.int (nI (a % d)) :: st)) : zV p l e R s m args below meth c D A cells slots Q G pc L (.int y :: .int x :: st) := fun H locs ls hP hS hG hL9 => by
  have k1 := kk H locs ls hP hS hG hL9
  rw [← pk_rem ha h0 hd, ← hx, ← hy] at k1
  exact lv_irem C.1.1 C.1.2.1 hdg (by rw [hy]; exact nI_ne0 h0 hd) k1
theorem zV.top {v w : Int32} (h : v = w) (kk : zV p l e R s m args below meth c D A cells slots Q G pc L (.int w :: st)) : zV p l e R s m args below meth c D A cells slots Q G pc L (.int v :: st) := by subst h; exact kk
end ZDR
theorem z41b {i : Nat} (h : i < 41) : ¬ (41 : Int32) ≤ nI i := z41i h
theorem z41c : (41 : Int32) ≤ nI 41 := z4141
theorem z1a (i : Nat) : nI i + 1 = nI (i + 1) := z1i i
theorem z0a (x : Int32) : x + 0 = x := by simp
theorem zCon_3 {σ : zS} {k : Nat} : zCon σ k = 3 ↔ σ 4 k ≠ 0 := by
  unfold zCon
  by_cases h4 : σ 4 k = 0
  · by_cases h5 : σ 5 k = 0
    · by_cases h6 : σ 6 k = 0
      · simp [h4, h5, h6]
      · simp [h4, h5, h6]
    · simp [h4, h5]
  · simp [h4]
theorem zCon_2 {σ : zS} {k : Nat} : zCon σ k = 2 ↔ σ 4 k = 0 ∧ σ 5 k ≠ 0 := by
  unfold zCon
  by_cases h4 : σ 4 k = 0
  · by_cases h5 : σ 5 k = 0
    · by_cases h6 : σ 6 k = 0
      · simp [h4, h5, h6]
      · simp [h4, h5, h6]
    · simp [h4, h5]
  · simp [h4]
theorem zCon_1 {σ : zS} {k : Nat} : zCon σ k = 1 ↔ σ 4 k = 0 ∧ σ 5 k = 0 ∧ σ 6 k ≠ 0 := by
  unfold zCon
  by_cases h4 : σ 4 k = 0
  · by_cases h5 : σ 5 k = 0
    · by_cases h6 : σ 6 k = 0
      · simp [h4, h5, h6]
      · simp [h4, h5, h6]
    · simp [h4, h5]
  · simp [h4]
theorem zCon_0 {σ : zS} {k : Nat} : zCon σ k = 0 ↔ zRunN σ k := by
  unfold zCon zRunN
  by_cases h4 : σ 4 k = 0
  · by_cases h5 : σ 5 k = 0
    · by_cases h6 : σ 6 k = 0
      · simp [h4, h5, h6]
      · simp [h4, h5, h6]
    · simp [h4, h5]
  · simp [h4]
theorem zCon_r (σ : zS) (k : Nat) : ¬ zCon σ k < 0 ∧ ¬ (4 : Int32) ≤ zCon σ k := by
  unfold zCon
  split
  · decide
  · split
    · decide
    · split
      · decide
      · decide
theorem zAtt_of {σ : zS} {k j : Nat} (h : σ 1 k = nI j) (hj : j < 41) : zAtt σ k ↔ (σ 0 k ≠ 0 ∧ σ 4 k = 0 ∧ k ≠ 1 ∧ σ 4 j = 0 ∧ σ 3 j = σ 3 k ∧ σ 2 j ≠ σ 2 k) := by
  unfold zAtt
  rw [h, show pn (nI j) = j from nI_clamp (by omega)]
theorem q_parentN (l : Launch) (D : va_G) {B G : zG} {x tb ev : Nat} {A : Nat → Nat} {σ : zS} {q : List zEv} {h m0 : Nat} {k j : Nat} (hC : zCl B x tb ev A σ q h m0 G) (hW : zWf σ) (h1 : 1 ≤ k) (hk : k < 41) (h0 : σ 0 k ≠ 0) (hj : σ 1 k = nI j) : zMet D l yX2_parent wsX2_parent ({ frames := 2, cells := 0, slots := 0, locals := 70 } : Room) [.ref x, .int (nI k)] G (fun v G9 => v = some (.int (nI j)) ∧ G9 = G) := by
  have := q_parent l D hC hW h1 hk h0
  rw [hj] at this
  exact this
theorem zMemL_1 {σ : zS} {g : Int32} (h : zWf σ) : zMemL σ g 1 = [] := by
  rw [zMemL_no (fun z => z.1 h.z)]
  rfl
set_option maxHeartbeats 4000000 in
set_option maxRecDepth 100000 in
theorem c_L_isMember (l : Launch) (D : va_G) {B G : zG} {x tb ev : Nat} {A : Nat → Nat} {σ : zS} {m0 : Nat} (hC : zCl B x tb ev A σ [] 0 m0 G) {k9 : Nat} {g9 : Int32} (h1 : 1 ≤ k9) (hk : k9 < 41) : zMet D l yL_isMember wsL_isMember ({ frames := 3, cells := 0, slots := 0, locals := 100 } : Room) [.ref x, .int (nI k9), .int g9] G (fun v G9 => v = some (.int (zb (zMem σ k9 g9))) ∧ G9 = G) := by
  refine zMet_of (cc := cL_isMember) (maxL := 3) (ret := (some .boolean)) (by decide) rfl (Nat.le_of_ble_eq_true rfl) ?_
  intro p e s m args below meth c C hmn
  refine zz_aload_n (pc := 0) C dL_isMember_0 rfl ?_
  refine zz_iload_n (pc := 1) C dL_isMember_1 rfl ?_
  refine zz_callV (pc := 2) C (q_exists l D hC h1 hk) gL_isMember_X2_exists rfl 1 (by decide +kernel) ⟨Nat.le_of_ble_eq_true rfl, Nat.le_of_ble_eq_true rfl⟩ hC.x (ci := 2) rfl rfl rfl dL_isMember_2 rfl (Nat.le_of_ble_eq_true rfl) rfl ⟨Nat.le_of_ble_eq_true rfl, Nat.le_of_ble_eq_true rfl⟩ ?_
  rintro v G9 ⟨rfl, rfl⟩
  refine zz_if_eq (pc := 5) C (tgt := 30) dL_isMember_5 (by decide) (fun hc5 => ?_) (fun hc5 => ?_)
  · refine zz_iconst (pc := 30) C (v := 0) (by decide) dL_isMember_30 ?_
    first
      | exact zz_ireturn (pc := 31) C dL_isMember_31 (by first | rfl | exact zb_nar) (Nat.le_of_ble_eq_true rfl) (Nat.le_of_ble_eq_true rfl) ⟨zvf (fun z => zb_eq.mp hc5 z.1), rfl⟩
      | exact zz_ireturn (pc := 31) C dL_isMember_31 (by first | rfl | exact zb_nar) (Nat.le_of_ble_eq_true rfl) (Nat.le_of_ble_eq_true rfl) ⟨zvf (fun z => zCon_3.mp hc14 z.2.1), rfl⟩
      | exact zz_ireturn (pc := 31) C dL_isMember_31 (by first | rfl | exact zb_nar) (Nat.le_of_ble_eq_true rfl) (Nat.le_of_ble_eq_true rfl) ⟨zvf (fun z => hc23 z.2.2), rfl⟩
      | exact zz_ireturn (pc := 31) C dL_isMember_31 (by first | rfl | exact zb_nar) (Nat.le_of_ble_eq_true rfl) (Nat.le_of_ble_eq_true rfl) ⟨zvt ⟨zbp hc5, Classical.not_not.mp (fun z => hc14 (zCon_3.mpr z)), Classical.not_not.mp hc23⟩, rfl⟩
  · refine zz_aload_n (pc := 8) C dL_isMember_8 rfl ?_
    refine zz_iload_n (pc := 9) C dL_isMember_9 rfl ?_
    refine zz_callV (pc := 10) C (q_state l D hC h1 hk (zbp hc5)) gL_isMember_X2_state rfl 1 (by decide +kernel) ⟨Nat.le_of_ble_eq_true rfl, Nat.le_of_ble_eq_true rfl⟩ hC.x (ci := 2) rfl rfl rfl dL_isMember_10 rfl (Nat.le_of_ble_eq_true rfl) rfl ⟨Nat.le_of_ble_eq_true rfl, Nat.le_of_ble_eq_true rfl⟩ ?_
    rintro v G9 ⟨rfl, rfl⟩
    refine zz_iconst (pc := 13) C (v := 3) (by decide) dL_isMember_13 ?_
    refine zz_icmp_eq (pc := 14) C (tgt := 30) dL_isMember_14 (by decide) (fun hc14 => ?_) (fun hc14 => ?_)
    · refine zz_iconst (pc := 30) C (v := 0) (by decide) dL_isMember_30 ?_
      first
        | exact zz_ireturn (pc := 31) C dL_isMember_31 (by first | rfl | exact zb_nar) (Nat.le_of_ble_eq_true rfl) (Nat.le_of_ble_eq_true rfl) ⟨zvf (fun z => zb_eq.mp hc5 z.1), rfl⟩
        | exact zz_ireturn (pc := 31) C dL_isMember_31 (by first | rfl | exact zb_nar) (Nat.le_of_ble_eq_true rfl) (Nat.le_of_ble_eq_true rfl) ⟨zvf (fun z => zCon_3.mp hc14 z.2.1), rfl⟩
        | exact zz_ireturn (pc := 31) C dL_isMember_31 (by first | rfl | exact zb_nar) (Nat.le_of_ble_eq_true rfl) (Nat.le_of_ble_eq_true rfl) ⟨zvf (fun z => hc23 z.2.2), rfl⟩
        | exact zz_ireturn (pc := 31) C dL_isMember_31 (by first | rfl | exact zb_nar) (Nat.le_of_ble_eq_true rfl) (Nat.le_of_ble_eq_true rfl) ⟨zvt ⟨zbp hc5, Classical.not_not.mp (fun z => hc14 (zCon_3.mpr z)), Classical.not_not.mp hc23⟩, rfl⟩
    · refine zz_aload_n (pc := 17) C dL_isMember_17 rfl ?_
      refine zz_iload_n (pc := 18) C dL_isMember_18 rfl ?_
      refine zz_callV (pc := 19) C (q_group l D hC h1 hk (zbp hc5)) gL_isMember_X2_group rfl 1 (by decide +kernel) ⟨Nat.le_of_ble_eq_true rfl, Nat.le_of_ble_eq_true rfl⟩ hC.x (ci := 2) rfl rfl rfl dL_isMember_19 rfl (Nat.le_of_ble_eq_true rfl) rfl ⟨Nat.le_of_ble_eq_true rfl, Nat.le_of_ble_eq_true rfl⟩ ?_
      rintro v G9 ⟨rfl, rfl⟩
      refine zz_iload_n (pc := 22) C dL_isMember_22 rfl ?_
      refine zz_icmp_ne (pc := 23) C (tgt := 30) dL_isMember_23 (by decide) (fun hc23 => ?_) (fun hc23 => ?_)
      · refine zz_iconst (pc := 30) C (v := 0) (by decide) dL_isMember_30 ?_
        first
          | exact zz_ireturn (pc := 31) C dL_isMember_31 (by first | rfl | exact zb_nar) (Nat.le_of_ble_eq_true rfl) (Nat.le_of_ble_eq_true rfl) ⟨zvf (fun z => zb_eq.mp hc5 z.1), rfl⟩
          | exact zz_ireturn (pc := 31) C dL_isMember_31 (by first | rfl | exact zb_nar) (Nat.le_of_ble_eq_true rfl) (Nat.le_of_ble_eq_true rfl) ⟨zvf (fun z => zCon_3.mp hc14 z.2.1), rfl⟩
          | exact zz_ireturn (pc := 31) C dL_isMember_31 (by first | rfl | exact zb_nar) (Nat.le_of_ble_eq_true rfl) (Nat.le_of_ble_eq_true rfl) ⟨zvf (fun z => hc23 z.2.2), rfl⟩
          | exact zz_ireturn (pc := 31) C dL_isMember_31 (by first | rfl | exact zb_nar) (Nat.le_of_ble_eq_true rfl) (Nat.le_of_ble_eq_true rfl) ⟨zvt ⟨zbp hc5, Classical.not_not.mp (fun z => hc14 (zCon_3.mpr z)), Classical.not_not.mp hc23⟩, rfl⟩
      · refine zz_iconst (pc := 26) C (v := 1) (by decide) dL_isMember_26 ?_
        refine zz_goto (pc := 27) C (tgt := 31) dL_isMember_27 (by decide) ?_
        first
          | exact zz_ireturn (pc := 31) C dL_isMember_31 (by first | rfl | exact zb_nar) (Nat.le_of_ble_eq_true rfl) (Nat.le_of_ble_eq_true rfl) ⟨zvf (fun z => zb_eq.mp hc5 z.1), rfl⟩
          | exact zz_ireturn (pc := 31) C dL_isMember_31 (by first | rfl | exact zb_nar) (Nat.le_of_ble_eq_true rfl) (Nat.le_of_ble_eq_true rfl) ⟨zvf (fun z => zCon_3.mp hc14 z.2.1), rfl⟩
          | exact zz_ireturn (pc := 31) C dL_isMember_31 (by first | rfl | exact zb_nar) (Nat.le_of_ble_eq_true rfl) (Nat.le_of_ble_eq_true rfl) ⟨zvf (fun z => hc23 z.2.2), rfl⟩
          | exact zz_ireturn (pc := 31) C dL_isMember_31 (by first | rfl | exact zb_nar) (Nat.le_of_ble_eq_true rfl) (Nat.le_of_ble_eq_true rfl) ⟨zvt ⟨zbp hc5, Classical.not_not.mp (fun z => hc14 (zCon_3.mpr z)), Classical.not_not.mp hc23⟩, rfl⟩
set_option maxHeartbeats 4000000 in
set_option maxRecDepth 100000 in
theorem c_L_members (l : Launch) (D : va_G) {B G : zG} {x tb ev : Nat} {A : Nat → Nat} {σ : zS} {m0 : Nat} (hC : zCl B x tb ev A σ [] 0 m0 G) {g9 : Int32} (hW : zWf σ) : zMet D l yL_members wsL_members ({ frames := 4, cells := 0, slots := 0, locals := 130 } : Room) [.ref x, .int g9] G (fun v G9 => v = some (.int (nI (zMemL σ g9 41).length)) ∧ G9 = G) := by
  refine zMet_of (cc := cL_members) (maxL := 4) (ret := (some .int)) (by decide) rfl (Nat.le_of_ble_eq_true rfl) ?_
  intro p e s m args below meth c C hmn
  have loop : ∀ (n i : Nat), i + n = 41 → 1 ≤ i → zV p l e ({ frames := 4, cells := 0, slots := 0, locals := 130 } : Room) s m args below meth c D (zA G s.heap.size) 0 0 (zZ below D G (fun v G9 => v = some (.int (nI (zMemL σ g9 41).length)) ∧ G9 = G) args s ({ frames := 4, cells := 0, slots := 0, locals := 130 } : Room)) G 4 [some (.ref x), some (.int g9), some (.int (nI (zMemL σ g9 (i)).length)), some (.int (nI (i)))] [] := by
    intro n
    induction n with
    | zero =>
      intro i hi hi1
      have hi41 : i = 41 := by omega
      subst hi41
      refine zz_iload_n (pc := 4) C dL_members_4 rfl ?_
      refine zz_bipush (pc := 5) C (v := 41) (by decide) dL_members_5 ?_
      refine zz_icmp_ge (pc := 7) C (tgt := 33) dL_members_7 (by decide) (fun hc7 => ?_) (fun hc7 => ?_)
      · refine zz_iload_n (pc := 33) C dL_members_33 rfl ?_
        exact zz_ireturn (pc := 34) C dL_members_34 (by first | rfl | exact zb_nar) (Nat.le_of_ble_eq_true rfl) (Nat.le_of_ble_eq_true rfl) ⟨rfl, rfl⟩
      · exact absurd z41c hc7
    | succ n ih =>
      intro i hi hi1
      refine zz_iload_n (pc := 4) C dL_members_4 rfl ?_
      refine zz_bipush (pc := 5) C (v := 41) (by decide) dL_members_5 ?_
      refine zz_icmp_ge (pc := 7) C (tgt := 33) dL_members_7 (by decide) (fun hc7 => ?_) (fun hc7 => ?_)
      · exact absurd hc7 (z41b (by omega))
      · refine zz_iload_n (pc := 10) C dL_members_10 rfl ?_
        refine zz_aload_n (pc := 11) C dL_members_11 rfl ?_
        refine zz_iload_n (pc := 12) C dL_members_12 rfl ?_
        refine zz_iload_n (pc := 13) C dL_members_13 rfl ?_
        refine zz_callS (pc := 14) C (c_L_isMember l D hC (by omega) (by omega)) gL_members_L_isMember rfl 3 (by decide +kernel) ⟨Nat.le_of_ble_eq_true rfl, Nat.le_of_ble_eq_true rfl⟩ rfl dL_members_14 rfl (Nat.le_of_ble_eq_true rfl) rfl ⟨Nat.le_of_ble_eq_true rfl, Nat.le_of_ble_eq_true rfl⟩ ?_
        rintro v G9 ⟨rfl, rfl⟩
        refine zz_if_eq (pc := 17) C (tgt := 24) dL_members_17 (by decide) (fun hc17 => ?_) (fun hc17 => ?_)
        · refine zz_iconst (pc := 24) C (v := 0) (by decide) dL_members_24 ?_
          refine zz_iadd (pc := 25) C dL_members_25 ?_
          refine zz_istore_n (pc := 26) C dL_members_26 (Nat.le_of_ble_eq_true rfl) ?_
          refine zz_iinc (pc := 27) C dL_members_27 rfl ?_
          refine zz_goto (pc := 30) C (tgt := 4) dL_members_30 (by decide) ?_
          first
            | exact zV.less (L' := [some (.ref x), some (.int g9), some (.int (nI (zMemL σ g9 (i + 1)).length)), some (.int (nI (i + 1)))]) ⟨rfl, rfl, zvi (by rw [zMemL_no (zb_eq.mp hc17), z0a]), zvi (z1i i), trivial⟩ (ih (i + 1) (by omega) (by omega))
            | exact zV.less (L' := [some (.ref x), some (.int g9), some (.int (nI (zMemL σ g9 (i + 1)).length)), some (.int (nI (i + 1)))]) ⟨rfl, rfl, zvi (by rw [zMemL_yes (zbp hc17), List.length_append]; exact z1a _), zvi (z1i i), trivial⟩ (ih (i + 1) (by omega) (by omega))
        · refine zz_iconst (pc := 20) C (v := 1) (by decide) dL_members_20 ?_
          refine zz_goto (pc := 21) C (tgt := 25) dL_members_21 (by decide) ?_
          refine zz_iadd (pc := 25) C dL_members_25 ?_
          refine zz_istore_n (pc := 26) C dL_members_26 (Nat.le_of_ble_eq_true rfl) ?_
          refine zz_iinc (pc := 27) C dL_members_27 rfl ?_
          refine zz_goto (pc := 30) C (tgt := 4) dL_members_30 (by decide) ?_
          first
            | exact zV.less (L' := [some (.ref x), some (.int g9), some (.int (nI (zMemL σ g9 (i + 1)).length)), some (.int (nI (i + 1)))]) ⟨rfl, rfl, zvi (by rw [zMemL_no (zb_eq.mp hc17), z0a]), zvi (z1i i), trivial⟩ (ih (i + 1) (by omega) (by omega))
            | exact zV.less (L' := [some (.ref x), some (.int g9), some (.int (nI (zMemL σ g9 (i + 1)).length)), some (.int (nI (i + 1)))]) ⟨rfl, rfl, zvi (by rw [zMemL_yes (zbp hc17), List.length_append]; exact z1a _), zvi (z1i i), trivial⟩ (ih (i + 1) (by omega) (by omega))
  refine zz_iconst (pc := 0) C (v := 0) (by decide) dL_members_0 ?_
  refine zz_istore_n (pc := 1) C dL_members_1 (Nat.le_of_ble_eq_true rfl) ?_
  refine zz_iconst (pc := 2) C (v := 1) (by decide) dL_members_2 ?_
  refine zz_istore_n (pc := 3) C dL_members_3 (Nat.le_of_ble_eq_true rfl) ?_
  exact zV.less (L' := [some (.ref x), some (.int g9), some (.int (nI (zMemL σ g9 (1)).length)), some (.int (nI (1)))]) ⟨rfl, rfl, zvi (by rw [zMemL_1 hW]; rfl), rfl, trivial⟩ (loop 40 1 rfl (by omega))
set_option maxHeartbeats 4000000 in
set_option maxRecDepth 100000 in
theorem c_L_isOrphaned (l : Launch) (D : va_G) {B G : zG} {x tb ev : Nat} {A : Nat → Nat} {σ : zS} {m0 : Nat} (hC : zCl B x tb ev A σ [] 0 m0 G) {g9 : Int32} (hW : zWf σ) : zMet D l yL_isOrphaned wsL_isOrphaned ({ frames := 4, cells := 0, slots := 0, locals := 130 } : Room) [.ref x, .int g9] G (fun v G9 => v = some (.int (zb (zOrph σ g9))) ∧ G9 = G) := by
  refine zMet_of (cc := cL_isOrphaned) (maxL := 4) (ret := (some .boolean)) (by decide) rfl (Nat.le_of_ble_eq_true rfl) ?_
  intro p e s m args below meth c C hmn
  have loop : ∀ (n i : Nat), i + n = 41 → 2 ≤ i → (∀ k, k < i → ¬ (zAtt σ k ∧ σ 2 k = g9)) → zV p l e ({ frames := 4, cells := 0, slots := 0, locals := 130 } : Room) s m args below meth c D (zA G s.heap.size) 0 0 (zZ below D G (fun v G9 => v = some (.int (zb (zOrph σ g9))) ∧ G9 = G) args s ({ frames := 4, cells := 0, slots := 0, locals := 130 } : Room)) G 2 [some (.ref x), some (.int g9), some (.int (nI (i))), none] [] := by
    intro n
    induction n with
    | zero =>
      intro i hi hi1 hinv
      have hi41 : i = 41 := by omega
      subst hi41
      refine zz_iload_n (pc := 2) C dL_isOrphaned_2 rfl ?_
      refine zz_bipush (pc := 3) C (v := 41) (by decide) dL_isOrphaned_3 ?_
      refine zz_icmp_ge (pc := 5) C (tgt := 62) dL_isOrphaned_5 (by decide) (fun hc5 => ?_) (fun hc5 => ?_)
      · refine zz_iconst (pc := 62) C (v := 1) (by decide) dL_isOrphaned_62 ?_
        exact zz_ireturn (pc := 63) C dL_isOrphaned_63 (by first | rfl | exact zb_nar) (Nat.le_of_ble_eq_true rfl) (Nat.le_of_ble_eq_true rfl) ⟨zvt hinv, rfl⟩
      · exact absurd z41c hc5
    | succ n ih =>
      intro i hi hi1 hinv
      refine zz_iload_n (pc := 2) C dL_isOrphaned_2 rfl ?_
      refine zz_bipush (pc := 3) C (v := 41) (by decide) dL_isOrphaned_3 ?_
      refine zz_icmp_ge (pc := 5) C (tgt := 62) dL_isOrphaned_5 (by decide) (fun hc5 => ?_) (fun hc5 => ?_)
      · exact absurd hc5 (z41b (by omega))
      · refine zz_aload_n (pc := 8) C dL_isOrphaned_8 rfl ?_
        refine zz_iload_n (pc := 9) C dL_isOrphaned_9 rfl ?_
        refine zz_iload_n (pc := 10) C dL_isOrphaned_10 rfl ?_
        refine zz_callS (pc := 11) C (c_L_isMember l D hC (by omega) (by omega)) gL_isOrphaned_L_isMember rfl 3 (by decide +kernel) ⟨Nat.le_of_ble_eq_true rfl, Nat.le_of_ble_eq_true rfl⟩ rfl dL_isOrphaned_11 rfl (Nat.le_of_ble_eq_true rfl) rfl ⟨Nat.le_of_ble_eq_true rfl, Nat.le_of_ble_eq_true rfl⟩ ?_
        rintro v G9 ⟨rfl, rfl⟩
        refine zz_if_eq (pc := 14) C (tgt := 56) dL_isOrphaned_14 (by decide) (fun hc14 => ?_) (fun hc14 => ?_)
        · refine zz_iinc (pc := 56) C dL_isOrphaned_56 rfl ?_
          refine zz_goto (pc := 59) C (tgt := 2) dL_isOrphaned_59 (by decide) ?_
          first
            | exact zV.less (L' := [some (.ref x), some (.int g9), some (.int (nI (i + 1))), none]) ⟨rfl, rfl, zvi (z1i i), trivial⟩ (ih (i + 1) (by omega) (by omega) (zAll_succ.mpr ⟨hinv, fun z => zb_eq.mp hc14 ⟨z.1.1, z.1.2.1, z.2⟩⟩))
            | exact zV.less (L' := [some (.ref x), some (.int g9), some (.int (nI (i + 1))), none]) ⟨rfl, rfl, zvi (z1i i), trivial⟩ (ih (i + 1) (by omega) (by omega) (zAll_succ.mpr ⟨hinv, fun z => hc42 ((zAtt_of j1 j3).mp z.1).2.2.2.2.1⟩))
            | exact zV.less (L' := [some (.ref x), some (.int g9), some (.int (nI (i + 1))), none]) ⟨rfl, rfl, zvi (z1i i), trivial⟩ (ih (i + 1) (by omega) (by omega) (zAll_succ.mpr ⟨hinv, fun z => ((zAtt_of j1 j3).mp z.1).2.2.2.2.2 (hc51.trans hmem.2.2.symm)⟩))
        · have hmem := zbp hc14
          obtain ⟨j, j1, j2, j3, j4, j5, j6⟩ := hW.par hmem.1 (by omega)
          refine zz_aload_n (pc := 17) C dL_isOrphaned_17 rfl ?_
          refine zz_iload_n (pc := 18) C dL_isOrphaned_18 rfl ?_
          refine zz_callV (pc := 19) C (q_parentN l D hC hW (by omega) (by omega) hmem.1 j1) gL_isOrphaned_X2_parent rfl 1 (by decide +kernel) ⟨Nat.le_of_ble_eq_true rfl, Nat.le_of_ble_eq_true rfl⟩ hC.x (ci := 2) rfl rfl rfl dL_isOrphaned_19 rfl (Nat.le_of_ble_eq_true rfl) rfl ⟨Nat.le_of_ble_eq_true rfl, Nat.le_of_ble_eq_true rfl⟩ ?_
          rintro v G9 ⟨rfl, rfl⟩
          refine zz_istore_n (pc := 22) C dL_isOrphaned_22 (Nat.le_of_ble_eq_true rfl) ?_
          refine zz_aload_n (pc := 23) C dL_isOrphaned_23 rfl ?_
          refine zz_iload_n (pc := 24) C dL_isOrphaned_24 rfl ?_
          refine zz_callV (pc := 25) C (q_state l D hC j2 j3 j5) gL_isOrphaned_X2_state rfl 1 (by decide +kernel) ⟨Nat.le_of_ble_eq_true rfl, Nat.le_of_ble_eq_true rfl⟩ hC.x (ci := 2) rfl rfl rfl dL_isOrphaned_25 rfl (Nat.le_of_ble_eq_true rfl) rfl ⟨Nat.le_of_ble_eq_true rfl, Nat.le_of_ble_eq_true rfl⟩ ?_
          rintro v G9 ⟨rfl, rfl⟩
          refine zz_iconst (pc := 28) C (v := 3) (by decide) dL_isOrphaned_28 ?_
          refine zz_icmp_eq (pc := 29) C (tgt := 56) dL_isOrphaned_29 (by decide) (fun hc29 => ?_) (fun hc29 => ?_)
          · exact absurd j6 (zCon_3.mp hc29)
          · refine zz_aload_n (pc := 32) C dL_isOrphaned_32 rfl ?_
            refine zz_iload_n (pc := 33) C dL_isOrphaned_33 rfl ?_
            refine zz_callV (pc := 34) C (q_session l D hC j2 j3 j5) gL_isOrphaned_X2_session rfl 1 (by decide +kernel) ⟨Nat.le_of_ble_eq_true rfl, Nat.le_of_ble_eq_true rfl⟩ hC.x (ci := 2) rfl rfl rfl dL_isOrphaned_34 rfl (Nat.le_of_ble_eq_true rfl) rfl ⟨Nat.le_of_ble_eq_true rfl, Nat.le_of_ble_eq_true rfl⟩ ?_
            rintro v G9 ⟨rfl, rfl⟩
            refine zz_aload_n (pc := 37) C dL_isOrphaned_37 rfl ?_
            refine zz_iload_n (pc := 38) C dL_isOrphaned_38 rfl ?_
            refine zz_callV (pc := 39) C (q_session l D hC (by omega) (by omega) hmem.1) gL_isOrphaned_X2_session rfl 1 (by decide +kernel) ⟨Nat.le_of_ble_eq_true rfl, Nat.le_of_ble_eq_true rfl⟩ hC.x (ci := 2) rfl rfl rfl dL_isOrphaned_39 rfl (Nat.le_of_ble_eq_true rfl) rfl ⟨Nat.le_of_ble_eq_true rfl, Nat.le_of_ble_eq_true rfl⟩ ?_
            rintro v G9 ⟨rfl, rfl⟩
            refine zz_icmp_ne (pc := 42) C (tgt := 56) dL_isOrphaned_42 (by decide) (fun hc42 => ?_) (fun hc42 => ?_)
            · refine zz_iinc (pc := 56) C dL_isOrphaned_56 rfl ?_
              refine zz_goto (pc := 59) C (tgt := 2) dL_isOrphaned_59 (by decide) ?_
              first
                | exact zV.less (L' := [some (.ref x), some (.int g9), some (.int (nI (i + 1))), none]) ⟨rfl, rfl, zvi (z1i i), trivial⟩ (ih (i + 1) (by omega) (by omega) (zAll_succ.mpr ⟨hinv, fun z => zb_eq.mp hc14 ⟨z.1.1, z.1.2.1, z.2⟩⟩))
                | exact zV.less (L' := [some (.ref x), some (.int g9), some (.int (nI (i + 1))), none]) ⟨rfl, rfl, zvi (z1i i), trivial⟩ (ih (i + 1) (by omega) (by omega) (zAll_succ.mpr ⟨hinv, fun z => hc42 ((zAtt_of j1 j3).mp z.1).2.2.2.2.1⟩))
                | exact zV.less (L' := [some (.ref x), some (.int g9), some (.int (nI (i + 1))), none]) ⟨rfl, rfl, zvi (z1i i), trivial⟩ (ih (i + 1) (by omega) (by omega) (zAll_succ.mpr ⟨hinv, fun z => ((zAtt_of j1 j3).mp z.1).2.2.2.2.2 (hc51.trans hmem.2.2.symm)⟩))
            · refine zz_aload_n (pc := 45) C dL_isOrphaned_45 rfl ?_
              refine zz_iload_n (pc := 46) C dL_isOrphaned_46 rfl ?_
              refine zz_callV (pc := 47) C (q_group l D hC j2 j3 j5) gL_isOrphaned_X2_group rfl 1 (by decide +kernel) ⟨Nat.le_of_ble_eq_true rfl, Nat.le_of_ble_eq_true rfl⟩ hC.x (ci := 2) rfl rfl rfl dL_isOrphaned_47 rfl (Nat.le_of_ble_eq_true rfl) rfl ⟨Nat.le_of_ble_eq_true rfl, Nat.le_of_ble_eq_true rfl⟩ ?_
              rintro v G9 ⟨rfl, rfl⟩
              refine zz_iload_n (pc := 50) C dL_isOrphaned_50 rfl ?_
              refine zz_icmp_eq (pc := 51) C (tgt := 56) dL_isOrphaned_51 (by decide) (fun hc51 => ?_) (fun hc51 => ?_)
              · refine zz_iinc (pc := 56) C dL_isOrphaned_56 rfl ?_
                refine zz_goto (pc := 59) C (tgt := 2) dL_isOrphaned_59 (by decide) ?_
                first
                  | exact zV.less (L' := [some (.ref x), some (.int g9), some (.int (nI (i + 1))), none]) ⟨rfl, rfl, zvi (z1i i), trivial⟩ (ih (i + 1) (by omega) (by omega) (zAll_succ.mpr ⟨hinv, fun z => zb_eq.mp hc14 ⟨z.1.1, z.1.2.1, z.2⟩⟩))
                  | exact zV.less (L' := [some (.ref x), some (.int g9), some (.int (nI (i + 1))), none]) ⟨rfl, rfl, zvi (z1i i), trivial⟩ (ih (i + 1) (by omega) (by omega) (zAll_succ.mpr ⟨hinv, fun z => hc42 ((zAtt_of j1 j3).mp z.1).2.2.2.2.1⟩))
                  | exact zV.less (L' := [some (.ref x), some (.int g9), some (.int (nI (i + 1))), none]) ⟨rfl, rfl, zvi (z1i i), trivial⟩ (ih (i + 1) (by omega) (by omega) (zAll_succ.mpr ⟨hinv, fun z => ((zAtt_of j1 j3).mp z.1).2.2.2.2.2 (hc51.trans hmem.2.2.symm)⟩))
              · refine zz_iconst (pc := 54) C (v := 0) (by decide) dL_isOrphaned_54 ?_
                exact zz_ireturn (pc := 55) C dL_isOrphaned_55 (by first | rfl | exact zb_nar) (Nat.le_of_ble_eq_true rfl) (Nat.le_of_ble_eq_true rfl) ⟨zvf (fun z => z i (by omega) ⟨(zAtt_of j1 j3).mpr ⟨hmem.1, hmem.2.1, by omega, j6, Classical.not_not.mp hc42, fun y => hc51 (y.trans hmem.2.2)⟩, hmem.2.2⟩), rfl⟩
  refine zz_iconst (pc := 0) C (v := 2) (by decide) dL_isOrphaned_0 ?_
  refine zz_istore_n (pc := 1) C dL_isOrphaned_1 (Nat.le_of_ble_eq_true rfl) ?_
  refine zV.less (L' := [some (.ref x), some (.int g9), some (.int (nI (2))), none]) ⟨rfl, rfl, rfl, trivial⟩ (loop 39 2 rfl (by omega) (fun k hk => ?_))
  intro z
  have hk2 : k = 0 ∨ k = 1 := by omega
  rcases hk2 with rfl | rfl
  · exact z.1.1 hW.z
  · exact z.1.2.2.1 rfl
def zPid (σ : zS) : Nat → Nat → Nat
  | 0, k => k
  | n + 1, k => if σ 0 k ≠ 0 then k else zPid σ n (k % 40 + 1)
theorem zPid_here {σ : zS} (h1 : σ 0 1 ≠ 0) : ∀ {n k : Nat}, 1 ≤ k → k < 41 → (k ≠ 1 → 41 - k ≤ n) → 1 ≤ zPid σ n k ∧ zPid σ n k < 41 ∧ σ 0 (zPid σ n k) ≠ 0
  | 0, k, a, b, c => by
    have hk : k = 1 := by
      by_cases h : k = 1
      · exact h
      · have := c h; omega
    subst hk
    exact ⟨a, b, h1⟩
  | n + 1, k, a, b, c => by
    unfold zPid
    split
    · rename_i h; exact ⟨a, b, h⟩
    · rename_i h
      have hk1 : k ≠ 1 := fun z => h (by rw [z]; exact h1)
      have := c hk1
      refine zPid_here h1 (n := n) (k := k % 40 + 1) (by omega) (by omega) (fun z => ?_)
      have : k ≠ 40 := fun y => z (by rw [y])
      have : k % 40 = k := Nat.mod_eq_of_lt (by omega)
      omega
set_option maxHeartbeats 4000000 in
set_option maxRecDepth 100000 in
theorem c_L_pid (l : Launch) (D : va_G) {B G : zG} {x tb ev : Nat} {A : Nat → Nat} {σ : zS} {m0 : Nat} (hC : zCl B x tb ev A σ [] 0 m0 G) {v9 : Nat} (hW : zWf σ) (hv : v9 < 2 ^ 31) : zMet D l yL_pid wsL_pid ({ frames := 3, cells := 0, slots := 0, locals := 100 } : Room) [.ref x, .int (nI v9)] G (fun v G9 => v = some (.int (nI (zPid σ 40 (v9 % 40 + 1)))) ∧ G9 = G) := by
  refine zMet_of (cc := cL_pid) (maxL := 3) (ret := (some .int)) (by decide) rfl (Nat.le_of_ble_eq_true rfl) ?_
  intro p e s m args below meth c C hmn
  have loop : ∀ (n k : Nat), 1 ≤ k → k < 41 → (k ≠ 1 → 41 - k ≤ n) → zPid σ n k = zPid σ 40 (v9 % 40 + 1) → zV p l e ({ frames := 3, cells := 0, slots := 0, locals := 100 } : Room) s m args below meth c D (zA G s.heap.size) 0 0 (zZ below D G (fun v G9 => v = some (.int (nI (zPid σ 40 (v9 % 40 + 1)))) ∧ G9 = G) args s ({ frames := 3, cells := 0, slots := 0, locals := 100 } : Room)) G 7 [some (.ref x), some (.int (nI v9)), some (.int (nI (k)))] [] := by
    intro n
    induction n with
    | zero =>
      intro k a b c9 e9
      have hk1 : k = 1 := by
        by_cases h : k = 1
        · exact h
        · have := c9 h; omega
      have hk0 : σ 0 k ≠ 0 := by rw [hk1]; exact hW.x0
      refine zz_aload_n (pc := 7) C dL_pid_7 rfl ?_
      refine zz_iload_n (pc := 8) C dL_pid_8 rfl ?_
      refine zz_callV (pc := 9) C (q_exists l D hC (by omega) (by omega)) gL_pid_X2_exists rfl 1 (by decide +kernel) ⟨Nat.le_of_ble_eq_true rfl, Nat.le_of_ble_eq_true rfl⟩ hC.x (ci := 2) rfl rfl rfl dL_pid_9 rfl (Nat.le_of_ble_eq_true rfl) rfl ⟨Nat.le_of_ble_eq_true rfl, Nat.le_of_ble_eq_true rfl⟩ ?_
      rintro v G9 ⟨rfl, rfl⟩
      refine zz_if_ne (pc := 12) C (tgt := 25) dL_pid_12 (by decide) (fun hc12 => ?_) (fun hc12 => ?_)
      · refine zz_iload_n (pc := 25) C dL_pid_25 rfl ?_
        exact zz_ireturn (pc := 26) C dL_pid_26 (by first | rfl | exact zb_nar) (Nat.le_of_ble_eq_true rfl) (Nat.le_of_ble_eq_true rfl) ⟨by rw [← e9]; rfl, rfl⟩
      · exact absurd (zb_ne.mpr hk0) hc12
    | succ n ih =>
      intro k a b c9 e9
      refine zz_aload_n (pc := 7) C dL_pid_7 rfl ?_
      refine zz_iload_n (pc := 8) C dL_pid_8 rfl ?_
      refine zz_callV (pc := 9) C (q_exists l D hC (by omega) (by omega)) gL_pid_X2_exists rfl 1 (by decide +kernel) ⟨Nat.le_of_ble_eq_true rfl, Nat.le_of_ble_eq_true rfl⟩ hC.x (ci := 2) rfl rfl rfl dL_pid_9 rfl (Nat.le_of_ble_eq_true rfl) rfl ⟨Nat.le_of_ble_eq_true rfl, Nat.le_of_ble_eq_true rfl⟩ ?_
      rintro v G9 ⟨rfl, rfl⟩
      refine zz_if_ne (pc := 12) C (tgt := 25) dL_pid_12 (by decide) (fun hc12 => ?_) (fun hc12 => ?_)
      · refine zz_iload_n (pc := 25) C dL_pid_25 rfl ?_
        exact zz_ireturn (pc := 26) C dL_pid_26 (by first | rfl | exact zb_nar) (Nat.le_of_ble_eq_true rfl) (Nat.le_of_ble_eq_true rfl) ⟨by rw [← e9]; unfold zPid; rw [if_pos (zb_ne.mp hc12)], rfl⟩
      · refine zz_iload_n (pc := 15) C dL_pid_15 rfl ?_
        refine zz_bipush (pc := 16) C (v := 40) (by decide) dL_pid_16 ?_
        refine zz_irem (pc := 18) C (a := k) (d := 40) dL_pid_18 rfl rfl (by omega) (by decide) (by decide) ?_
        refine zz_iconst (pc := 19) C (v := 1) (by decide) dL_pid_19 ?_
        refine zz_iadd (pc := 20) C dL_pid_20 ?_
        refine zz_istore_n (pc := 21) C dL_pid_21 (Nat.le_of_ble_eq_true rfl) ?_
        refine zz_goto (pc := 22) C (tgt := 7) dL_pid_22 (by decide) ?_
        have hk0 : ¬ σ 0 k ≠ 0 := fun z => hc12 (zb_ne.mpr z)
        have hk1 : k ≠ 1 := fun z => hk0 (by rw [z]; exact hW.x0)
        have hc := c9 hk1
        refine zV.less (L' := [some (.ref x), some (.int (nI v9)), some (.int (nI (k % 40 + 1)))]) ⟨rfl, rfl, zvi (z1a _), trivial⟩ (ih (k % 40 + 1) (by omega) (by omega) (fun z => ?_) ?_)
        · have : k ≠ 40 := fun y => z (by rw [y])
          have : k % 40 = k := Nat.mod_eq_of_lt (by omega)
          omega
        · rw [← e9]
          conv => rhs; unfold zPid
          rw [if_neg hk0]
  refine zz_iconst (pc := 0) C (v := 1) (by decide) dL_pid_0 ?_
  refine zz_iload_n (pc := 1) C dL_pid_1 rfl ?_
  refine zz_bipush (pc := 2) C (v := 40) (by decide) dL_pid_2 ?_
  refine zz_irem (pc := 4) C (a := v9) (d := 40) dL_pid_4 rfl rfl (by omega) (by decide) (by decide) ?_
  refine zz_iadd (pc := 5) C dL_pid_5 ?_
  refine zz_istore_n (pc := 6) C dL_pid_6 (Nat.le_of_ble_eq_true rfl) ?_
  exact zV.less (L' := [some (.ref x), some (.int (nI v9)), some (.int (nI (v9 % 40 + 1)))]) ⟨rfl, rfl, zvi (by rw [Int32.add_comm]; exact z1a _), trivial⟩ (loop 40 (v9 % 40 + 1) (by omega) (by omega) (fun _ => by omega) rfl)
