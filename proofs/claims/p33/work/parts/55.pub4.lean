section ZLW
variable {p : Program} {l : Launch} {e : Env} {R : Room} {s : State} {m : MethodId} {args : Array Value} {below : List Frame} {meth : Method} {c : Code} {D : va_G} {A : Nat → Prop} {cells slots : Nat} {Q : State → Prop} {G : zG} {pc : Nat} {L : List (Option Value)} {st : List Value}
variable {cc : ByteArray} {nL : Nat} {own : String} {Ts : List Cond} {ret : Option FieldType}
theorem zz_ldcw (C : zC p s m args meth c D A cc nL own Ts ret) {index : Nat} {v : Int32} (hw : Jvm.Cond.constant own index v ∈ Ts) (hdg : decode cc pc = .ok (.ldc_w index, 3)) (kk : zV p l e R s m args below meth c D A cells slots Q G (pc + 3) L (.int v :: st)) : zV p l e R s m args below meth c D A cells slots Q G (pc) L st := fun H locs ls hP hS hG hL9 => lv_ldcw C.1.1 C.1.2.1 C.1.2.2.2.1 (C.ts hw) hdg (kk H locs ls hP hS hG hL9)
end ZLW
/-! setGroup -/
theorem c_clMay (l : Launch) (D : va_G) {B G : zG} {x tb ev : Nat} {A : Nat → Nat} {σ : zS} {q : List zEv} {h m0 : Nat} {p9 t9 : Nat} (hC : zCl B x tb ev A σ q h m0 G) (hH : zHas σ) (hp : p9 < 41) (ht : t9 < 41) (hp0 : σ 0 p9 ≠ 0) (ht0 : σ 0 t9 ≠ 0) : zMet D l yX2_mayMove wsX2_mayMove ({ frames := 1, cells := 0, slots := 0, locals := 20 } : Room) [.ref (A p9), .ref (A t9)] G (fun v G9 => v = some (.int (zb (zMay σ p9 t9))) ∧ G9 = G) := by
  obtain ⟨hm, ka, pa, F, fk, fp, ck, cp, hB⟩ := hC
  exact c_X2_mayMove l D hB hH hp ht (zTA_y hp0) (zTA_y ht0)
theorem fl_X2_setGroup_106 : Cond.fieldLink RX2 106 "Signalpost$Proc" "session" "I" ∈ wsX2_setGroup := by decide +kernel
theorem fl_X2_setGroup_103 : Cond.fieldLink RX2 103 "Signalpost$Proc" "group" "I" ∈ wsX2_setGroup := by decide +kernel
theorem in_X2_setGroup_X1 : ∀ w ∈ u_ws RX1 TX1 20, w ∈ wsX2_setGroup := by decide +kernel
theorem kc_X2_setGroup_43 : Cond.classLink RX2 43 "java/lang/IllegalStateException" ∈ wsX2_setGroup := by decide +kernel
theorem ki_X2_setGroup_43 : Cond.initialized "java/lang/IllegalStateException" ∈ wsX2_setGroup := by decide +kernel
theorem ka_X2_setGroup_43 : ∀ w ∈ (vx_atS RX2 47 "java/lang/IllegalStateException" ["java/lang/RuntimeException", "java/lang/Exception"]).filter goodWord, w ∈ wsX2_setGroup := by decide +kernel
theorem kb_X2_setGroup_43 : ∀ w ∈ (vx_atS RX2 47 "java/lang/IllegalStateException" ["java/lang/RuntimeException", "java/lang/Exception"]).filter (fun w => !goodWord w), w ∈ zFaces := by decide +kernel
theorem kg_X2_setGroup_43 : ∀ w ∈ Cond.classLink RX2 43 "java/lang/IllegalStateException" :: Cond.initialized "java/lang/IllegalStateException" :: vx_atS RX2 47 "java/lang/IllegalStateException" ["java/lang/RuntimeException", "java/lang/Exception"], vx_ot w = true := by decide +kernel
set_option maxHeartbeats 4000000 in
set_option maxRecDepth 100000 in
theorem c_X2_setGroup (l : Launch) (hl : l.stackTraces = false) (D : va_G) {B G : zG} {x tb ev : Nat} {A : Nat → Nat} {σ : zS} {q : List zEv} {h m0 : Nat} {x9 t9 g9 : Int32} (hC : zCl B x tb ev A σ q h m0 G) (hW : zWf σ) : zxMet D l yX2_setGroup wsX2_setGroup ({ frames := 8, cells := 5, slots := 30, locals := 132 } : Room) [.ref x, .int x9, .int t9, .int g9] G (fun v G9 => zE3 (¬ zHere σ x9 ∨ ¬ zHere σ t9) (g9 < 1 ∨ (40 : Int32) < g9) (zNot σ (pn x9) ∨ ¬ zPoss σ (pn x9) (pn t9) g9) = 0 ∧ v = some (.int (σ 2 (pn t9))) ∧ zCl B x tb ev A (zu σ 2 (pn t9) g9) q h m0 G9) (fun E => (zE3 (¬ zHere σ x9 ∨ ¬ zHere σ t9) (g9 < 1 ∨ (40 : Int32) < g9) (zNot σ (pn x9) ∨ ¬ zPoss σ (pn x9) (pn t9) g9) = 1 ∧ E = "java/lang/IndexOutOfBoundsException") ∨ (zE3 (¬ zHere σ x9 ∨ ¬ zHere σ t9) (g9 < 1 ∨ (40 : Int32) < g9) (zNot σ (pn x9) ∨ ¬ zPoss σ (pn x9) (pn t9) g9) = 2 ∧ E = "java/lang/IllegalArgumentException") ∨ (zE3 (¬ zHere σ x9 ∨ ¬ zHere σ t9) (g9 < 1 ∨ (40 : Int32) < g9) (zNot σ (pn x9) ∨ ¬ zPoss σ (pn x9) (pn t9) g9) = 3 ∧ E = "java/lang/IllegalStateException")) := by
  refine zxMet_of (cc := cX2_setGroup) (maxL := 7) (ret := (some .int)) (by decide) rfl (Nat.le_of_ble_eq_true rfl) ?_
  intro p e s m args below meth c C hnx h8
  refine zz_aload_n (pc := 0) C dX2_setGroup_0 rfl ?_
  refine zz_iload_n (pc := 1) C dX2_setGroup_1 rfl ?_
  refine zzx_callV (pc := 2) C h8 (c_X2_find l hl D hC (x9 := x9)) gX2_setGroup_X2_find rfl 1 (by decide +kernel) ⟨Nat.le_of_ble_eq_true rfl, Nat.le_of_ble_eq_true rfl⟩ hC.x (ci := 2) rfl rfl rfl dX2_setGroup_2 rfl (Nat.le_of_ble_eq_true rfl) rfl ⟨Nat.le_of_ble_eq_true rfl, Nat.le_of_ble_eq_true rfl⟩ (fun E hE => zzx_out C hnx (Or.inl ⟨zE3_1 (Or.inl hE.1), hE.2⟩) (Nat.le_of_ble_eq_true rfl) (Nat.le_of_ble_eq_true rfl)) ?_
  rintro v G9 ⟨hth, rfl, rfl⟩
  obtain ⟨hx1, hx2, hx3⟩ := hth.at
  obtain ⟨f, hGa, hPF, hup⟩ := hC.at (k := pn x9) hx3 hth.2.2
  refine zz_astore (pc := 5) C dX2_setGroup_5 (Nat.le_of_ble_eq_true rfl) ?_
  refine zz_aload_n (pc := 7) C dX2_setGroup_7 rfl ?_
  refine zz_iload_n (pc := 8) C dX2_setGroup_8 rfl ?_
  refine zzx_callV (pc := 9) C h8 (c_X2_find l hl D hC (x9 := t9)) gX2_setGroup_X2_find rfl 1 (by decide +kernel) ⟨Nat.le_of_ble_eq_true rfl, Nat.le_of_ble_eq_true rfl⟩ hC.x (ci := 2) rfl rfl rfl dX2_setGroup_9 rfl (Nat.le_of_ble_eq_true rfl) rfl ⟨Nat.le_of_ble_eq_true rfl, Nat.le_of_ble_eq_true rfl⟩ (fun E hE => zzx_out C hnx (Or.inl ⟨zE3_1 (Or.inr hE.1), hE.2⟩) (Nat.le_of_ble_eq_true rfl) (Nat.le_of_ble_eq_true rfl)) ?_
  rintro v G9 ⟨hth2, rfl, rfl⟩
  obtain ⟨ht1, ht2, ht3⟩ := hth2.at
  obtain ⟨ft, hGt, hPt, hupt⟩ := hC.at (k := pn t9) ht3 hth2.2.2
  have hno : ¬ (¬ zHere σ x9 ∨ ¬ zHere σ t9) := fun z => z.elim (fun u => u hth) (fun u => u hth2)
  refine zz_astore (pc := 12) C dX2_setGroup_12 (Nat.le_of_ble_eq_true rfl) ?_
  refine zz_iload_n (pc := 14) C dX2_setGroup_14 rfl ?_
  refine zzx_callS (pc := 15) C h8 (c_X2_requireNumber l hl D (v9 := g9)) gX2_setGroup_X2_requireNumber rfl 1 (by decide +kernel) ⟨Nat.le_of_ble_eq_true rfl, Nat.le_of_ble_eq_true rfl⟩ rfl dX2_setGroup_15 rfl (Nat.le_of_ble_eq_true rfl) rfl ⟨Nat.le_of_ble_eq_true rfl, Nat.le_of_ble_eq_true rfl⟩ (fun E hE => zzx_out C hnx (Or.inr (Or.inl ⟨zE3_2 hno hE.1, hE.2⟩)) (Nat.le_of_ble_eq_true rfl) (Nat.le_of_ble_eq_true rfl)) ?_
  rintro v G9 ⟨hrr, rfl, rfl⟩
  refine zz_aload (pc := 18) C dX2_setGroup_18 rfl ?_
  refine zzx_callS (pc := 20) C h8 (c_X2_requireCaller l hl D hC (k := pn x9) hx3 hth.2.2) gX2_setGroup_X2_requireCaller rfl 1 (by decide +kernel) ⟨Nat.le_of_ble_eq_true rfl, Nat.le_of_ble_eq_true rfl⟩ rfl dX2_setGroup_20 rfl (Nat.le_of_ble_eq_true rfl) rfl ⟨Nat.le_of_ble_eq_true rfl, Nat.le_of_ble_eq_true rfl⟩ (fun E hE => zzx_out C hnx (Or.inr (Or.inr ⟨zE3_3 hno hrr (Or.inl hE.1), hE.2⟩)) (Nat.le_of_ble_eq_true rfl) (Nat.le_of_ble_eq_true rfl)) ?_
  rintro v G9 ⟨hnot, rfl, rfl⟩
  obtain ⟨hl1, hl4, hl5, hl6⟩ := zRunN.live hnot
  refine zz_aload (pc := 23) C dX2_setGroup_23 rfl ?_
  refine zz_aload (pc := 25) C dX2_setGroup_25 rfl ?_
  refine zz_callS (pc := 27) C (c_clMay l D (p9 := pn x9) (t9 := pn t9) hC hW.has hx3 ht3 hth.2.2 hth2.2.2) gX2_setGroup_X2_mayMove rfl 2 (by decide +kernel) ⟨Nat.le_of_ble_eq_true rfl, Nat.le_of_ble_eq_true rfl⟩ rfl dX2_setGroup_27 rfl (Nat.le_of_ble_eq_true rfl) rfl ⟨Nat.le_of_ble_eq_true rfl, Nat.le_of_ble_eq_true rfl⟩ ?_
  rintro v G9 ⟨rfl, rfl⟩
  refine zz_if_eq (pc := 30) C (tgt := 51) dX2_setGroup_30 (by decide) (fun hc30 => ?_) (fun hc30 => ?_)
  · exact zzx_throw (pc := 51) (cls := "java/lang/IllegalStateException") (text := "this target or this group is not possible") (names := ["java/lang/RuntimeException", "java/lang/Exception"]) C hnx h8 hl rfl (Or.inr (Or.inr ⟨zE3_3 hno hrr (Or.inr (fun z => zb_eq.mp hc30 ⟨z.1, z.2.1, z.2.2.1, z.2.2.2.1⟩)), rfl⟩)) (by decide) (by decide) (by decide) kc_X2_setGroup_43 ki_X2_setGroup_43 ka_X2_setGroup_43 kb_X2_setGroup_43 kg_X2_setGroup_43 dX2_setGroup_51 dX2_setGroup_54 dX2_setGroup_55 dX2_setGroup_57 dX2_setGroup_60 rfl (by decide) (by decide) (Nat.le_of_ble_eq_true rfl) (Nat.le_of_ble_eq_true rfl)
  · refine zz_iload_n (pc := 33) C dX2_setGroup_33 rfl ?_
    refine zz_iload_n (pc := 34) C dX2_setGroup_34 rfl ?_
    refine zz_icmp_eq (pc := 35) C (tgt := 61) dX2_setGroup_35 (by decide) (fun hc35 => ?_) (fun hc35 => ?_)
    · have hpo : zPoss σ (pn x9) (pn t9) g9 := ⟨(zbp hc30).1, (zbp hc30).2.1, (zbp hc30).2.2.1, (zbp hc30).2.2.2, (Or.inl (hc35.trans ht1))⟩
      refine zV.less (L' := [some (.ref x), some (.int x9), some (.int t9), some (.int g9), some (.ref (A (pn x9))), some (.ref (A (pn t9))), none]) ⟨rfl, rfl, rfl, rfl, rfl, rfl, trivial⟩ ?_
      refine zz_aload (pc := 61) C dX2_setGroup_61 rfl ?_
      refine zz_get (pc := 63) C in_X2_setGroup_X1 (ci := 1) rfl 2 (by decide) (fl_X2_setGroup_103) rfl dX2_setGroup_63 hGt rfl ?_
      refine zz_istore (pc := 66) C dX2_setGroup_66 (Nat.le_of_ble_eq_true rfl) ?_
      refine zz_aload (pc := 68) C dX2_setGroup_68 rfl ?_
      refine zz_iload_n (pc := 70) C dX2_setGroup_70 rfl ?_
      refine zV.eqG (zU_id hGt).symm ?_
      refine zz_pput (pc := 71) C in_X2_setGroup_X1 2 (by decide) (by decide) (by decide) fl_X2_setGroup_103 dX2_setGroup_71 rfl rfl ?_
      have hC2 := hupt _ _ (zOwn_g (g := 2) (v := g9) (by decide) (by decide) (by decide)) (zPF_2 hPt)
      refine zz_iload (pc := 74) C dX2_setGroup_74 rfl ?_
      exact zzx_ret (zz_ireturn (pc := 76) C dX2_setGroup_76 rfl (Nat.le_of_ble_eq_true rfl) (Nat.le_of_ble_eq_true rfl) ⟨zE3_0 hno hrr (fun z => z.elim hnot (fun u => u hpo)), by rw [hPt.2.1], hC2⟩)
    · refine zz_aload_n (pc := 38) C dX2_setGroup_38 rfl ?_
      refine zz_iload_n (pc := 39) C dX2_setGroup_39 rfl ?_
      refine zz_aload (pc := 40) C dX2_setGroup_40 rfl ?_
      refine zz_get (pc := 42) C in_X2_setGroup_X1 (ci := 1) rfl 3 (by decide) (fl_X2_setGroup_106) rfl dX2_setGroup_42 hGa rfl ?_
      rw [hPF.2.2.1]
      refine zz_callV (pc := 45) C (c_clMem l D (g9 := g9) (s9 := σ 3 (pn x9)) hC) gX2_setGroup_X2_hasMemberIn rfl 2 (by decide +kernel) ⟨Nat.le_of_ble_eq_true rfl, Nat.le_of_ble_eq_true rfl⟩ hC.x (ci := 2) rfl rfl rfl dX2_setGroup_45 rfl (Nat.le_of_ble_eq_true rfl) rfl ⟨Nat.le_of_ble_eq_true rfl, Nat.le_of_ble_eq_true rfl⟩ ?_
      rintro v G9 ⟨rfl, rfl⟩
      refine zz_if_ne (pc := 48) C (tgt := 61) dX2_setGroup_48 (by decide) (fun hc48 => ?_) (fun hc48 => ?_)
      · have hpo : zPoss σ (pn x9) (pn t9) g9 := ⟨(zbp hc30).1, (zbp hc30).2.1, (zbp hc30).2.2.1, (zbp hc30).2.2.2, (Or.inr (zb_ne.mp hc48))⟩
        refine zV.less (L' := [some (.ref x), some (.int x9), some (.int t9), some (.int g9), some (.ref (A (pn x9))), some (.ref (A (pn t9))), none]) ⟨rfl, rfl, rfl, rfl, rfl, rfl, trivial⟩ ?_
        refine zz_aload (pc := 61) C dX2_setGroup_61 rfl ?_
        refine zz_get (pc := 63) C in_X2_setGroup_X1 (ci := 1) rfl 2 (by decide) (fl_X2_setGroup_103) rfl dX2_setGroup_63 hGt rfl ?_
        refine zz_istore (pc := 66) C dX2_setGroup_66 (Nat.le_of_ble_eq_true rfl) ?_
        refine zz_aload (pc := 68) C dX2_setGroup_68 rfl ?_
        refine zz_iload_n (pc := 70) C dX2_setGroup_70 rfl ?_
        refine zV.eqG (zU_id hGt).symm ?_
        refine zz_pput (pc := 71) C in_X2_setGroup_X1 2 (by decide) (by decide) (by decide) fl_X2_setGroup_103 dX2_setGroup_71 rfl rfl ?_
        have hC2 := hupt _ _ (zOwn_g (g := 2) (v := g9) (by decide) (by decide) (by decide)) (zPF_2 hPt)
        refine zz_iload (pc := 74) C dX2_setGroup_74 rfl ?_
        exact zzx_ret (zz_ireturn (pc := 76) C dX2_setGroup_76 rfl (Nat.le_of_ble_eq_true rfl) (Nat.le_of_ble_eq_true rfl) ⟨zE3_0 hno hrr (fun z => z.elim hnot (fun u => u hpo)), by rw [hPt.2.1], hC2⟩)
      · exact zzx_throw (pc := 51) (cls := "java/lang/IllegalStateException") (text := "this target or this group is not possible") (names := ["java/lang/RuntimeException", "java/lang/Exception"]) C hnx h8 hl rfl (Or.inr (Or.inr ⟨zE3_3 hno hrr (Or.inr (fun z => z.2.2.2.2.elim (fun u => hc35 (u.trans ht1.symm)) (fun u => zbn hc48 u))), rfl⟩)) (by decide) (by decide) (by decide) kc_X2_setGroup_43 ki_X2_setGroup_43 ka_X2_setGroup_43 kb_X2_setGroup_43 kg_X2_setGroup_43 dX2_setGroup_51 dX2_setGroup_54 dX2_setGroup_55 dX2_setGroup_57 dX2_setGroup_60 rfl (by decide) (by decide) (Nat.le_of_ble_eq_true rfl) (Nat.le_of_ble_eq_true rfl)
/-! setAction -/
theorem zBits_set {y : Int32} {s t : Nat} (hs : s < 9) (ht : t < 9) (b : Prop) [Decidable b] : zbt (if b then y ||| zSh s else y &&& (zSh s ^^^ (-1))) t ↔ if t = s then b else zbt y t := by
  have hs2 : s < 32 := by omega
  have ht2 : t < 32 := by omega
  by_cases hb : b
  · rw [if_pos hb, zbt_bit ht2, zbit_or, zbit_sh hs2 ht2, Bool.or_eq_true, decide_eq_true_eq]
    by_cases hts : t = s
    · rw [if_pos hts]; exact ⟨fun _ => hb, fun _ => Or.inr hts⟩
    · rw [if_neg hts, zbt_bit ht2]; exact ⟨fun z => z.elim id (fun u => absurd u hts), Or.inl⟩
  · rw [if_neg hb, zbt_bit ht2, show y &&& (zSh s ^^^ (-1)) = zClr y s from rfl, zbit_clr hs2 ht2, Bool.and_eq_true]
    by_cases hts : t = s
    · rw [if_pos hts]
      refine ⟨fun z => ?_, fun z => absurd z hb⟩
      have := z.2
      rw [hts] at this
      simp at this
    · rw [if_neg hts, zbt_bit ht2]
      exact ⟨fun z => z.1, fun z => ⟨z, by simp [hts]⟩⟩
theorem zBits_511 {y : Int32} {s : Nat} (hs : s < 9) (hy : y &&& 511 = y) (b : Prop) [Decidable b] : (if b then y ||| zSh s else y &&& (zSh s ^^^ (-1))) &&& 511 = (if b then y ||| zSh s else y &&& (zSh s ^^^ (-1))) := by
  by_cases hb : b
  · rw [if_pos hb]; exact zOr_511 hs hy
  · rw [if_neg hb]; exact zClr_511 (s := s) (by omega) hy
theorem zPF_setA {σ : zS} {k : Nat} {f : Nat → Int32} {s9 a9 : Int32} (hf : zPF σ k f) (hs : s9 = nI (pn s9)) (hs2 : pn s9 < 9) (ha : a9 = 0 ∨ a9 = 1 ∨ a9 = 2) : zPF (zSetA σ k s9 a9) k (zChgF f s9 a9) := by
  obtain ⟨a0, a2, a3, a4, a5, a6, a7, a8, a10, a11, a12, a13, a14, a15, a16, a17, a18, a19⟩ := hf
  generalize hn : pn s9 = s at hs hs2
  have hsh : (1 : Int32) <<< (s9 &&& 31) = zSh s := by rw [hs]; rfl
  obtain ⟨F, hF⟩ : ∃ F : Nat → Int32, F = zChgF1 f s9 a9 := ⟨_, rfl⟩
  have F12 : F 12 = if a9 = 1 then f 12 ||| zSh s else f 12 &&& (zSh s ^^^ (-1)) := by
    rw [hF, ← hsh]
    simp [zChgF1, zChgF0, upd]
  have F13 : F 13 = if a9 = 2 then f 13 ||| zSh s else f 13 &&& (zSh s ^^^ (-1)) := by
    rw [hF, ← hsh]
    simp [zChgF1, zChgF0, upd]
  have Fo : ∀ j, j ≠ 12 → j ≠ 13 → F j = f j := fun j h1 h2 => by rw [hF]; simp [zChgF1, zChgF0, upd, h1, h2]
  have hact : zActF F s9 = a9 := by
    have b2 : zbt (F 13) s ↔ a9 = 2 := by rw [F13, zBits_set hs2 hs2, if_pos rfl]
    have b1 : zbt (F 12) s ↔ a9 = 1 := by rw [F12, zBits_set hs2 hs2, if_pos rfl]
    rw [hs]
    show (if zbt (F 13) s then (2 : Int32) else if zbt (F 12) s then 1 else 0) = a9
    rcases ha with z | z | z
    · rw [if_neg (fun u => by have := b2.mp u; rw [z] at this; exact absurd this (by decide)), if_neg (fun u => by have := b1.mp u; rw [z] at this; exact absurd this (by decide)), z]
    · rw [if_neg (fun u => by have := b2.mp u; rw [z] at this; exact absurd this (by decide)), if_pos (b1.mpr z), z]
    · rw [if_pos (b2.mpr z), z]
  have hd : zHeedF F s9 ↔ ¬ (a9 = 1 ∨ (a9 = 0 ∧ (s9 = 4 ∨ s9 = 7))) := by
    unfold zHeedF
    rw [hact]
    constructor
    · rintro (z | z) u
      · rcases u with u | u
        · rw [z] at u; exact absurd u (by decide)
        · rw [z] at u; exact absurd u.1 (by decide)
      · rcases u with u | u
        · rw [z.1] at u; exact absurd u (by decide)
        · exact u.2.elim z.2.1 z.2.2
    · intro u
      rcases ha with z | z | z
      · exact Or.inr ⟨z, fun y => u (Or.inr ⟨z, Or.inl y⟩), fun y => u (Or.inr ⟨z, Or.inr y⟩)⟩
      · exact absurd (Or.inl z) u
      · exact Or.inl z
  have hch : zChgF f s9 a9 = upd F 15 (if a9 = 1 ∨ (a9 = 0 ∧ (s9 = 4 ∨ s9 = 7)) then zClr (σ 11 k) s else σ 11 k) := by
    unfold zChgF
    rw [← hF]
    by_cases hh : zHeedF F s9
    · rw [if_pos hh, if_neg (hd.mp hh)]
      funext j
      by_cases hj : j = 15
      · rw [hj, Fo 15 (by decide) (by decide), a15]; simp [upd]
      · simp [upd, hj]
    · have h9 : a9 = 1 ∨ (a9 = 0 ∧ (s9 = 4 ∨ s9 = 7)) := Classical.not_not.mp (fun z => hh (hd.mpr z))
      rw [if_neg hh, if_pos h9]
      unfold zForgF
      rw [hsh, Fo 15 (by decide) (by decide), a15]
      rfl
  have hst : ∀ g, g ≠ 9 → g ≠ 11 → zSetA σ k s9 a9 g = σ g := fun g h1 h2 => by unfold zSetA; rw [zu_off h2, zu_off h1]
  have hst11 : zSetA σ k s9 a9 11 k = if a9 = 1 ∨ (a9 = 0 ∧ (s9 = 4 ∨ s9 = 7)) then zClr (σ 11 k) s else σ 11 k := by unfold zSetA; rw [zu_self, hn]
  have hst9 : ∀ t, t < 9 → zSetA σ k s9 a9 9 (9 * k + t) = if t = s then a9 else σ 9 (9 * k + t) := fun t ht => by
    unfold zSetA
    rw [zu_off (by decide), zu_iff, hn]
    by_cases hts : t = s
    · rw [if_pos (by rw [hts]), if_pos hts]
    · rw [if_neg (by omega), if_neg hts]
  rw [hch]
  unfold zPF zRpt zVal at *
  rw [hst 2 (by decide) (by decide), hst 3 (by decide) (by decide), hst 13 (by decide) (by decide), hst 4 (by decide) (by decide), hst 5 (by decide) (by decide), hst 6 (by decide) (by decide), hst 7 (by decide) (by decide), hst 8 (by decide) (by decide), hst 14 (by decide) (by decide), hst 15 (by decide) (by decide), hst 16 (by decide) (by decide), hst 17 (by decide) (by decide), hst 10 (by decide) (by decide), hst 12 (by decide) (by decide), hst 18 (by decide) (by decide), hst 19 (by decide) (by decide), hst 20 (by decide) (by decide), hst11]
  have U : ∀ j, j ≠ 15 → upd F 15 (if a9 = 1 ∨ (a9 = 0 ∧ (s9 = 4 ∨ s9 = 7)) then zClr (σ 11 k) s else σ 11 k) j = F j := fun j hj => by simp [upd, hj]
  rw [U 0 (by decide), U 2 (by decide), U 3 (by decide), U 4 (by decide), U 5 (by decide), U 6 (by decide), U 7 (by decide), U 8 (by decide), U 9 (by decide), U 10 (by decide), U 11 (by decide), U 12 (by decide), U 13 (by decide), U 14 (by decide), U 16 (by decide), U 17 (by decide), U 18 (by decide), U 19 (by decide)]
  rw [Fo 0 (by decide) (by decide), Fo 2 (by decide) (by decide), Fo 3 (by decide) (by decide), Fo 4 (by decide) (by decide), Fo 5 (by decide) (by decide), Fo 6 (by decide) (by decide), Fo 7 (by decide) (by decide), Fo 8 (by decide) (by decide), Fo 9 (by decide) (by decide), Fo 10 (by decide) (by decide), Fo 11 (by decide) (by decide), Fo 14 (by decide) (by decide), Fo 16 (by decide) (by decide), Fo 17 (by decide) (by decide), Fo 18 (by decide) (by decide), Fo 19 (by decide) (by decide)]
  refine ⟨a0, a2, a3, a4, a5, a6, a7, a8, a10, a11, fun t ht => ?_, ?_, a14, by simp [upd], a16, a17, a18, a19⟩
  · rw [hst9 t ht, F13, F12, zBits_set hs2 ht, zBits_set hs2 ht]
    by_cases hts : t = s
    · rw [if_pos hts, if_pos hts, if_pos hts]; exact ⟨Iff.rfl, Iff.rfl⟩
    · rw [if_neg hts, if_neg hts, if_neg hts]; exact a12 t ht
  · rw [F13]; exact zBits_511 hs2 a13 _
theorem zOwn_setA {σ : zS} {k : Nat} {s9 a9 : Int32} (hs2 : pn s9 < 9) : zOwn σ (zSetA σ k s9 a9) k := by
  unfold zSetA
  refine ⟨fun j => ?_, fun j => ?_, fun g j hj h1 h2 h9 => ?_, fun j s hj hs => ?_, ?_, ?_⟩
  · rw [zu_off (by decide), zu_off (by decide)]
  · rw [zu_off (by decide), zu_off (by decide)]
  · by_cases h11 : g = 11
    · rw [h11, zu_iff, if_neg hj, zu_off (by decide)]
    · rw [zu_off h11, zu_off h9]
  · rw [zu_off (by decide), zu_iff, if_neg (by omega)]
  · rw [zu_off (by decide), zu_off (by decide)]
  · rw [zu_off (by decide), zu_off (by decide)]
theorem zA012 {a : Int32} (h0 : ¬ a < 0) (h2 : ¬ (2 : Int32) < a) : a = 0 ∨ a = 1 ∨ a = 2 := by
  have h1 : a.toInt ≤ 2 := Int32.le_iff_toInt_le.mp (Int32.not_lt.mp h2)
  have h0' : 0 ≤ a.toInt := Int32.le_iff_toInt_le.mp (Int32.not_lt.mp h0)
  have : a.toInt = 0 ∨ a.toInt = 1 ∨ a.toInt = 2 := by omega
  rcases this with z | z | z
  · exact Or.inl (Int32.toInt_inj.mp z)
  · exact Or.inr (Or.inl (Int32.toInt_inj.mp z))
  · exact Or.inr (Or.inr (Int32.toInt_inj.mp z))
theorem kc_X2_setAction_78 : Cond.classLink RX2 78 "java/lang/IllegalArgumentException" ∈ wsX2_setAction := by decide +kernel
theorem ki_X2_setAction_78 : Cond.initialized "java/lang/IllegalArgumentException" ∈ wsX2_setAction := by decide +kernel
theorem ka_X2_setAction_78 : ∀ w ∈ (vx_atS RX2 82 "java/lang/IllegalArgumentException" ["java/lang/RuntimeException", "java/lang/Exception"]).filter goodWord, w ∈ wsX2_setAction := by decide +kernel
theorem kb_X2_setAction_78 : ∀ w ∈ (vx_atS RX2 82 "java/lang/IllegalArgumentException" ["java/lang/RuntimeException", "java/lang/Exception"]).filter (fun w => !goodWord w), w ∈ zFaces := by decide +kernel
theorem kg_X2_setAction_78 : ∀ w ∈ Cond.classLink RX2 78 "java/lang/IllegalArgumentException" :: Cond.initialized "java/lang/IllegalArgumentException" :: vx_atS RX2 82 "java/lang/IllegalArgumentException" ["java/lang/RuntimeException", "java/lang/Exception"], vx_ot w = true := by decide +kernel
set_option maxHeartbeats 4000000 in
set_option maxRecDepth 100000 in
theorem c_X2_setAction (l : Launch) (hl : l.stackTraces = false) (D : va_G) {B G : zG} {x tb ev : Nat} {A : Nat → Nat} {σ : zS} {q : List zEv} {h m0 : Nat} {x9 s9 a9 : Int32} (hC : zCl B x tb ev A σ q h m0 G) (hW : zWf σ) : zxMet D l yX2_setAction wsX2_setAction ({ frames := 7, cells := 5, slots := 30, locals := 112 } : Room) [.ref x, .int x9, .int s9, .int a9] G (fun v G9 => zE3 (¬ zHere σ x9) (¬ zOkA s9 a9) (zNot σ (pn x9)) = 0 ∧ v = some (.int (σ 9 (9 * pn x9 + pn s9))) ∧ zCl B x tb ev A (zSetA σ (pn x9) s9 a9) q h m0 G9) (fun E => (zE3 (¬ zHere σ x9) (¬ zOkA s9 a9) (zNot σ (pn x9)) = 1 ∧ E = "java/lang/IndexOutOfBoundsException") ∨ (zE3 (¬ zHere σ x9) (¬ zOkA s9 a9) (zNot σ (pn x9)) = 2 ∧ E = "java/lang/IllegalArgumentException") ∨ (zE3 (¬ zHere σ x9) (¬ zOkA s9 a9) (zNot σ (pn x9)) = 3 ∧ E = "java/lang/IllegalStateException")) := by
  refine zxMet_of (cc := cX2_setAction) (maxL := 6) (ret := (some .int)) (by decide) rfl (Nat.le_of_ble_eq_true rfl) ?_
  intro p e s m args below meth c C hnx h8
  refine zz_aload_n (pc := 0) C dX2_setAction_0 rfl ?_
  refine zz_iload_n (pc := 1) C dX2_setAction_1 rfl ?_
  refine zzx_callV (pc := 2) C h8 (c_X2_find l hl D hC (x9 := x9)) gX2_setAction_X2_find rfl 1 (by decide +kernel) ⟨Nat.le_of_ble_eq_true rfl, Nat.le_of_ble_eq_true rfl⟩ hC.x (ci := 2) rfl rfl rfl dX2_setAction_2 rfl (Nat.le_of_ble_eq_true rfl) rfl ⟨Nat.le_of_ble_eq_true rfl, Nat.le_of_ble_eq_true rfl⟩ (fun E hE => zzx_out C hnx (Or.inl ⟨zE3_1 hE.1, hE.2⟩) (Nat.le_of_ble_eq_true rfl) (Nat.le_of_ble_eq_true rfl)) ?_
  rintro v G9 ⟨hth, rfl, rfl⟩
  obtain ⟨hx1, hx2, hx3⟩ := hth.at
  obtain ⟨f, hGa, hPF, hup⟩ := hC.at (k := pn x9) hx3 hth.2.2
  refine zz_astore (pc := 5) C dX2_setAction_5 (Nat.le_of_ble_eq_true rfl) ?_
  refine zz_iload_n (pc := 7) C dX2_setAction_7 rfl ?_
  refine zz_iconst (pc := 8) C (v := 0) (by decide) dX2_setAction_8 ?_
  refine zz_bipush (pc := 9) C (v := 8) (by decide) dX2_setAction_9 ?_
  refine zzx_callS (pc := 11) C h8 (c_X2_requireRange l hl D (v9 := s9) (a9 := 0) (b9 := 8)) gX2_setAction_X2_requireRange rfl 3 (by decide +kernel) ⟨Nat.le_of_ble_eq_true rfl, Nat.le_of_ble_eq_true rfl⟩ rfl dX2_setAction_11 rfl (Nat.le_of_ble_eq_true rfl) rfl ⟨Nat.le_of_ble_eq_true rfl, Nat.le_of_ble_eq_true rfl⟩ (fun E hE => zzx_out C hnx (Or.inr (Or.inl ⟨zE3_2 (fun z => z hth) (fun z => hE.1.elim (fun u => z.1 u) (fun u => z98 u z.2.1)), hE.2⟩)) (Nat.le_of_ble_eq_true rfl) (Nat.le_of_ble_eq_true rfl)) ?_
  rintro v G9 ⟨hr1, rfl, rfl⟩
  refine zz_iload_n (pc := 14) C dX2_setAction_14 rfl ?_
  refine zz_iconst (pc := 15) C (v := 0) (by decide) dX2_setAction_15 ?_
  refine zz_iconst (pc := 16) C (v := 2) (by decide) dX2_setAction_16 ?_
  refine zzx_callS (pc := 17) C h8 (c_X2_requireRange l hl D (v9 := a9) (a9 := 0) (b9 := 2)) gX2_setAction_X2_requireRange rfl 3 (by decide +kernel) ⟨Nat.le_of_ble_eq_true rfl, Nat.le_of_ble_eq_true rfl⟩ rfl dX2_setAction_17 rfl (Nat.le_of_ble_eq_true rfl) rfl ⟨Nat.le_of_ble_eq_true rfl, Nat.le_of_ble_eq_true rfl⟩ (fun E hE => zzx_out C hnx (Or.inr (Or.inl ⟨zE3_2 (fun z => z hth) (fun z => hE.1.elim (fun u => z.2.2.2.2.1 u) (fun u => z.2.2.2.2.2 u)), hE.2⟩)) (Nat.le_of_ble_eq_true rfl) (Nat.le_of_ble_eq_true rfl)) ?_
  rintro v G9 ⟨hr2, rfl, rfl⟩
  refine zz_iload_n (pc := 20) C dX2_setAction_20 rfl ?_
  refine zz_iconst (pc := 21) C (v := 2) (by decide) dX2_setAction_21 ?_
  refine zz_icmp_eq (pc := 22) C (tgt := 30) dX2_setAction_22 (by decide) (fun hc22 => ?_) (fun hc22 => ?_)
  · exact zzx_throw (pc := 30) (cls := "java/lang/IllegalArgumentException") (text := "KILL and STOP have no action") (names := ["java/lang/RuntimeException", "java/lang/Exception"]) C hnx h8 hl rfl (Or.inr (Or.inl ⟨zE3_2 (fun z => z hth) (fun z => z.2.2.1 hc22), rfl⟩)) (by decide) (by decide) (by decide) kc_X2_setAction_78 ki_X2_setAction_78 ka_X2_setAction_78 kb_X2_setAction_78 kg_X2_setAction_78 dX2_setAction_30 dX2_setAction_33 dX2_setAction_34 dX2_setAction_36 dX2_setAction_39 rfl (by decide) (by decide) (Nat.le_of_ble_eq_true rfl) (Nat.le_of_ble_eq_true rfl)
  · refine zz_iload_n (pc := 25) C dX2_setAction_25 rfl ?_
    refine zz_iconst (pc := 26) C (v := 5) (by decide) dX2_setAction_26 ?_
    refine zz_icmp_ne (pc := 27) C (tgt := 40) dX2_setAction_27 (by decide) (fun hc27 => ?_) (fun hc27 => ?_)
    · have hok : zOkA s9 a9 := ⟨fun u => hr1 (Or.inl u), z89 (fun y => hr1 (Or.inr y)), hc22, hc27, fun u => hr2 (Or.inl u), fun u => hr2 (Or.inr u)⟩
      obtain ⟨hs1, hs2⟩ := zs9 hok.1 hok.2.1
      refine zz_aload (pc := 40) C dX2_setAction_40 rfl ?_
      refine zzx_callS (pc := 42) C h8 (c_X2_requireCaller l hl D hC (k := pn x9) hx3 hth.2.2) gX2_setAction_X2_requireCaller rfl 1 (by decide +kernel) ⟨Nat.le_of_ble_eq_true rfl, Nat.le_of_ble_eq_true rfl⟩ rfl dX2_setAction_42 rfl (Nat.le_of_ble_eq_true rfl) rfl ⟨Nat.le_of_ble_eq_true rfl, Nat.le_of_ble_eq_true rfl⟩ (fun E hE => zzx_out C hnx (Or.inr (Or.inr ⟨zE3_3 (fun z => z hth) (fun z => z hok) hE.1, hE.2⟩)) (Nat.le_of_ble_eq_true rfl) (Nat.le_of_ble_eq_true rfl)) ?_
      rintro v G9 ⟨hnot, rfl, rfl⟩
      obtain ⟨hl1, hl4, hl5, hl6⟩ := zRunN.live hnot
      refine zz_aload (pc := 45) C dX2_setAction_45 rfl ?_
      refine zz_iload_n (pc := 47) C dX2_setAction_47 rfl ?_
      refine zz_callV (pc := 48) C (c_X1_actionFor l D (x := s9) hGa) gX2_setAction_X1_actionFor rfl 1 (by decide +kernel) ⟨Nat.le_of_ble_eq_true rfl, Nat.le_of_ble_eq_true rfl⟩ hGa (ci := 1) rfl rfl rfl dX2_setAction_48 rfl (Nat.le_of_ble_eq_true rfl) rfl ⟨Nat.le_of_ble_eq_true rfl, Nat.le_of_ble_eq_true rfl⟩ ?_
      rintro v G9 ⟨rfl, rfl⟩
      have hact : zActF f s9 = σ 9 (9 * pn x9 + pn s9) := by
        have h9 := zActF_eq (s := pn s9) hPF (hW.act hth.2.2 hs2) hs2
        rw [← hs1] at h9
        exact h9
      refine zz_istore (pc := 51) C dX2_setAction_51 (Nat.le_of_ble_eq_true rfl) ?_
      refine zz_aload (pc := 53) C dX2_setAction_53 rfl ?_
      refine zz_iload_n (pc := 55) C dX2_setAction_55 rfl ?_
      refine zz_iload_n (pc := 56) C dX2_setAction_56 rfl ?_
      refine zz_callV (pc := 57) C (c_X1_changeAction l D (x := s9) (z := a9) hGa) gX2_setAction_X1_changeAction rfl 2 (by decide +kernel) ⟨Nat.le_of_ble_eq_true rfl, Nat.le_of_ble_eq_true rfl⟩ hGa (ci := 1) rfl rfl rfl dX2_setAction_57 rfl (Nat.le_of_ble_eq_true rfl) rfl ⟨Nat.le_of_ble_eq_true rfl, Nat.le_of_ble_eq_true rfl⟩ ?_
      rintro v G9 ⟨rfl, rfl⟩
      have hC2 := hup _ _ (zOwn_setA (a9 := a9) hs2) (zPF_setA hPF hs1 hs2 (zA012 hok.2.2.2.2.1 hok.2.2.2.2.2))
      refine zz_iload (pc := 60) C dX2_setAction_60 rfl ?_
      exact zzx_ret (zz_ireturn (pc := 62) C dX2_setAction_62 rfl (Nat.le_of_ble_eq_true rfl) (Nat.le_of_ble_eq_true rfl) ⟨zE3_0 (fun z => z hth) (fun z => z hok) hnot, by rw [hact], hC2⟩)
    · exact zzx_throw (pc := 30) (cls := "java/lang/IllegalArgumentException") (text := "KILL and STOP have no action") (names := ["java/lang/RuntimeException", "java/lang/Exception"]) C hnx h8 hl rfl (Or.inr (Or.inl ⟨zE3_2 (fun z => z hth) (fun z => z.2.2.2.1 (Classical.not_not.mp hc27)), rfl⟩)) (by decide) (by decide) (by decide) kc_X2_setAction_78 ki_X2_setAction_78 ka_X2_setAction_78 kb_X2_setAction_78 kg_X2_setAction_78 dX2_setAction_30 dX2_setAction_33 dX2_setAction_34 dX2_setAction_36 dX2_setAction_39 rfl (by decide) (by decide) (Nat.le_of_ble_eq_true rfl) (Nat.le_of_ble_eq_true rfl)
