/-! isDone, where it calls the method of a kind -/
set_option maxHeartbeats 4000000 in
set_option maxRecDepth 100000 in
theorem d_fork (l : Launch) (hl : l.stackTraces = false) (D : va_G) {B G : zG} {x tb ev : Nat} {A : Nat → Nat} {σ : zS} {m0 : Nat} (hC : zCl B x tb ev A σ [] 0 m0 G) (hI : zIv 0 σ []) {b9 Ln t9 w9 v9 a9 d9 k9 : Nat} {xs : Nat → Int32} (hv : v9 < 2 ^ 31) (ha : a9 < 5000) (hd : d9 < 6000) (P0 : zsMet D l yL_part wsL_part ({ frames := 1, cells := 0, slots := 0, locals := 30 } : Room) [.ref b9, .int (nI t9), .int (nI 30)] G b9 Ln xs (fun v G9 => v = some (.int (nI w9)) ∧ G9 = G) (fun _ => False)) (P1 : zsMet D l yL_part wsL_part ({ frames := 1, cells := 0, slots := 0, locals := 30 } : Room) [.ref b9, .int (nI (t9 + 1)), .int (nI 4000)] G b9 Ln xs (fun v G9 => v = some (.int (nI v9)) ∧ G9 = G) (fun _ => False)) (P2 : zsMet D l yL_part wsL_part ({ frames := 1, cells := 0, slots := 0, locals := 30 } : Room) [.ref b9, .int (nI (t9 + 2)), .int (nI 5000)] G b9 Ln xs (fun v G9 => v = some (.int (nI a9)) ∧ G9 = G) (fun _ => False)) (P3 : zsMet D l yL_part wsL_part ({ frames := 1, cells := 0, slots := 0, locals := 30 } : Room) [.ref b9, .int (nI (t9 + 3)), .int (nI 6000)] G b9 Ln xs (fun v G9 => v = some (.int (nI d9)) ∧ G9 = G) (fun _ => False)) (ek : zPid σ 40 (v9 % 40 + 1) = k9)  (hw : 0 ≤ w9 ∧ w9 < 8)  {rm : Room} (hf : rm.frames ≤ 12 ∧ rm.locals ≤ 340) {Q9 : zG → Prop} (hM : zxMet D l yL_isForked wsL_isForked rm [.ref x, .int (nI k9)] G (fun v G9 => v = some (.int 1) ∧ Q9 G9) (fun _ => False)) : zsMet D l yL_isDone wsL_isDone ({ frames := 13, cells := rm.cells, slots := rm.slots, locals := 420 } : Room) [.ref x, .ref b9, .int (nI t9)] G b9 Ln xs (fun v G9 => v = some (.int 1) ∧ Q9 G9) (fun _ => False) := by
  refine zsMet_of (cc := cL_isDone) (maxL := 10) (ret := (some .boolean)) (by decide) rfl (Nat.le_of_ble_eq_true rfl) ?_
  intro p e s m args below meth c C hnx h8 hX hbl hbA
  have hW := hI.wf
  refine t_L_isDone l D hC (rm := rm) C h8 hX hbl hbA hW hv P0 P1 P2 P3 ?_
  rw [ek]
  refine zz_iload_n (pc := 48) C dL_isDone_48 rfl ?_
  refine zz_bipush (pc := 49) C (v := 8) (by decide) dL_isDone_49 ?_
  refine zz_icmp_ge (pc := 51) C (tgt := 61) dL_isDone_51 (by decide) (fun hc51 => ?_) (fun hc51 => ?_)
  · exact absurd ((nI_leI (a := 8) (b := w9) (by decide) (by omega)).mp hc51) (by omega)
  · refine zz_aload_n (pc := 54) C dL_isDone_54 rfl ?_
    refine zz_iload (pc := 55) C dL_isDone_55 rfl ?_
    refine zV.widen (k := 0) (n := 0) (Nat.le_of_ble_eq_true rfl) (Nat.le_of_ble_eq_true rfl) ?_
    refine zzx_callS (pc := 57) C h8 hM gL_isDone_L_isForked rfl 2 (by decide +kernel) ⟨by show rm.frames + 1 ≤ 13; omega, by show 8 + (4 + 11) + rm.locals ≤ 420; omega⟩ rfl dL_isDone_57 rfl (Nat.le_of_ble_eq_true rfl) rfl ⟨Nat.le_of_eq (Nat.zero_add _), Nat.le_of_eq (Nat.zero_add _)⟩ (fun E hE => hE.elim) ?_
    rintro v G9 ⟨rfl, hq⟩
    exact zzx_ret (zz_ireturn (pc := 60) C dL_isDone_60 rfl (Nat.le_of_eq (Nat.zero_add _)) (Nat.le_of_eq (Nat.zero_add _)) ⟨rfl, hq⟩)
set_option maxHeartbeats 4000000 in
set_option maxRecDepth 100000 in
theorem d_exit (l : Launch) (hl : l.stackTraces = false) (D : va_G) {B G : zG} {x tb ev : Nat} {A : Nat → Nat} {σ : zS} {m0 : Nat} (hC : zCl B x tb ev A σ [] 0 m0 G) (hI : zIv 0 σ []) {b9 Ln t9 w9 v9 a9 d9 k9 : Nat} {xs : Nat → Int32} (hv : v9 < 2 ^ 31) (ha : a9 < 5000) (hd : d9 < 6000) (P0 : zsMet D l yL_part wsL_part ({ frames := 1, cells := 0, slots := 0, locals := 30 } : Room) [.ref b9, .int (nI t9), .int (nI 30)] G b9 Ln xs (fun v G9 => v = some (.int (nI w9)) ∧ G9 = G) (fun _ => False)) (P1 : zsMet D l yL_part wsL_part ({ frames := 1, cells := 0, slots := 0, locals := 30 } : Room) [.ref b9, .int (nI (t9 + 1)), .int (nI 4000)] G b9 Ln xs (fun v G9 => v = some (.int (nI v9)) ∧ G9 = G) (fun _ => False)) (P2 : zsMet D l yL_part wsL_part ({ frames := 1, cells := 0, slots := 0, locals := 30 } : Room) [.ref b9, .int (nI (t9 + 2)), .int (nI 5000)] G b9 Ln xs (fun v G9 => v = some (.int (nI a9)) ∧ G9 = G) (fun _ => False)) (P3 : zsMet D l yL_part wsL_part ({ frames := 1, cells := 0, slots := 0, locals := 30 } : Room) [.ref b9, .int (nI (t9 + 3)), .int (nI 6000)] G b9 Ln xs (fun v G9 => v = some (.int (nI d9)) ∧ G9 = G) (fun _ => False)) (ek : zPid σ 40 (v9 % 40 + 1) = k9)  (hw : 8 ≤ w9 ∧ w9 < 10)  {rm : Room} (hf : rm.frames ≤ 12 ∧ rm.locals ≤ 340) {Q9 : zG → Prop} (hM : zxMet D l yL_isExited wsL_isExited rm [.ref x, .int (nI k9), .int (nI (a9 % 260))] G (fun v G9 => v = some (.int 1) ∧ Q9 G9) (fun _ => False)) : zsMet D l yL_isDone wsL_isDone ({ frames := 13, cells := rm.cells, slots := rm.slots, locals := 420 } : Room) [.ref x, .ref b9, .int (nI t9)] G b9 Ln xs (fun v G9 => v = some (.int 1) ∧ Q9 G9) (fun _ => False) := by
  refine zsMet_of (cc := cL_isDone) (maxL := 10) (ret := (some .boolean)) (by decide) rfl (Nat.le_of_ble_eq_true rfl) ?_
  intro p e s m args below meth c C hnx h8 hX hbl hbA
  have hW := hI.wf
  refine t_L_isDone l D hC (rm := rm) C h8 hX hbl hbA hW hv P0 P1 P2 P3 ?_
  rw [ek]
  refine zz_iload_n (pc := 48) C dL_isDone_48 rfl ?_
  refine zz_bipush (pc := 49) C (v := 8) (by decide) dL_isDone_49 ?_
  refine zz_icmp_ge (pc := 51) C (tgt := 61) dL_isDone_51 (by decide) (fun hc51 => ?_) (fun hc51 => ?_)
  · refine zz_iload_n (pc := 61) C dL_isDone_61 rfl ?_
    refine zz_bipush (pc := 62) C (v := 10) (by decide) dL_isDone_62 ?_
    refine zz_icmp_ge (pc := 64) C (tgt := 80) dL_isDone_64 (by decide) (fun hc64 => ?_) (fun hc64 => ?_)
    · exact absurd ((nI_leI (a := 10) (b := w9) (by decide) (by omega)).mp hc64) (by omega)
    · refine zz_aload_n (pc := 67) C dL_isDone_67 rfl ?_
      refine zz_iload (pc := 68) C dL_isDone_68 rfl ?_
      refine zz_iload (pc := 70) C dL_isDone_70 rfl ?_
      refine zz_sipush (pc := 72) C (v := 260) (by decide) dL_isDone_72 ?_
      refine zz_irem (pc := 75) C (a := a9) (d := 260) dL_isDone_75 rfl rfl (by omega) (by decide) (by decide) ?_
      refine zV.widen (k := 0) (n := 0) (Nat.le_of_ble_eq_true rfl) (Nat.le_of_ble_eq_true rfl) ?_
      refine zzx_callS (pc := 76) C h8 hM gL_isDone_L_isExited rfl 3 (by decide +kernel) ⟨by show rm.frames + 1 ≤ 13; omega, by show 8 + (9 + 11) + rm.locals ≤ 420; omega⟩ rfl dL_isDone_76 rfl (Nat.le_of_ble_eq_true rfl) rfl ⟨Nat.le_of_eq (Nat.zero_add _), Nat.le_of_eq (Nat.zero_add _)⟩ (fun E hE => hE.elim) ?_
      rintro v G9 ⟨rfl, hq⟩
      exact zzx_ret (zz_ireturn (pc := 79) C dL_isDone_79 rfl (Nat.le_of_eq (Nat.zero_add _)) (Nat.le_of_eq (Nat.zero_add _)) ⟨rfl, hq⟩)
  · exact absurd ((nI_leI (a := 8) (b := w9) (by decide) (by omega)).mpr (by omega)) hc51
set_option maxHeartbeats 4000000 in
set_option maxRecDepth 100000 in
theorem d_wait (l : Launch) (hl : l.stackTraces = false) (D : va_G) {B G : zG} {x tb ev : Nat} {A : Nat → Nat} {σ : zS} {m0 : Nat} (hC : zCl B x tb ev A σ [] 0 m0 G) (hI : zIv 0 σ []) {b9 Ln t9 w9 v9 a9 d9 k9 : Nat} {xs : Nat → Int32} (hv : v9 < 2 ^ 31) (ha : a9 < 5000) (hd : d9 < 6000) (P0 : zsMet D l yL_part wsL_part ({ frames := 1, cells := 0, slots := 0, locals := 30 } : Room) [.ref b9, .int (nI t9), .int (nI 30)] G b9 Ln xs (fun v G9 => v = some (.int (nI w9)) ∧ G9 = G) (fun _ => False)) (P1 : zsMet D l yL_part wsL_part ({ frames := 1, cells := 0, slots := 0, locals := 30 } : Room) [.ref b9, .int (nI (t9 + 1)), .int (nI 4000)] G b9 Ln xs (fun v G9 => v = some (.int (nI v9)) ∧ G9 = G) (fun _ => False)) (P2 : zsMet D l yL_part wsL_part ({ frames := 1, cells := 0, slots := 0, locals := 30 } : Room) [.ref b9, .int (nI (t9 + 2)), .int (nI 5000)] G b9 Ln xs (fun v G9 => v = some (.int (nI a9)) ∧ G9 = G) (fun _ => False)) (P3 : zsMet D l yL_part wsL_part ({ frames := 1, cells := 0, slots := 0, locals := 30 } : Room) [.ref b9, .int (nI (t9 + 3)), .int (nI 6000)] G b9 Ln xs (fun v G9 => v = some (.int (nI d9)) ∧ G9 = G) (fun _ => False)) (ek : zPid σ 40 (v9 % 40 + 1) = k9) {c9 f9 : Int32} (hw : 10 ≤ w9 ∧ w9 < 13) (hc9 : c9 = if nI (a9 % 3) = 0 then (-1 : Int32) else nI (d9 % 42)) (hf9 : f9 = if nI (a9 % 2) = 0 then (1 : Int32) else 0) {rm : Room} (hf : rm.frames ≤ 12 ∧ rm.locals ≤ 340) {Q9 : zG → Prop} (hM : zxMet D l yL_isWaited wsL_isWaited rm [.ref x, .int (nI k9), .int c9, .int f9] G (fun v G9 => v = some (.int 1) ∧ Q9 G9) (fun _ => False)) : zsMet D l yL_isDone wsL_isDone ({ frames := 13, cells := rm.cells, slots := rm.slots, locals := 420 } : Room) [.ref x, .ref b9, .int (nI t9)] G b9 Ln xs (fun v G9 => v = some (.int 1) ∧ Q9 G9) (fun _ => False) := by
  refine zsMet_of (cc := cL_isDone) (maxL := 10) (ret := (some .boolean)) (by decide) rfl (Nat.le_of_ble_eq_true rfl) ?_
  intro p e s m args below meth c C hnx h8 hX hbl hbA
  have hW := hI.wf
  refine t_L_isDone l D hC (rm := rm) C h8 hX hbl hbA hW hv P0 P1 P2 P3 ?_
  rw [ek]
  have K117 : zV p l e ({ frames := 13, cells := rm.cells, slots := rm.slots, locals := 420 } : Room) s m args below meth c D (zA G s.heap.size) 0 0 (zxZ below D G (fun v G9 => v = some (.int 1) ∧ Q9 G9) (fun _ => False) args s ({ frames := 13, cells := rm.cells, slots := rm.slots, locals := 420 } : Room)) G 117 [some (.ref x), some (.ref b9), some (.int (nI t9)), some (.int (nI w9)), some (.int (nI k9)), some (.int (nI a9)), some (.int (nI d9)), none, none, none] [.int f9, .int c9, .int (nI k9), .ref x] := by
    refine zV.widen (k := 0) (n := 0) (Nat.le_of_ble_eq_true rfl) (Nat.le_of_ble_eq_true rfl) ?_
    refine zzx_callS (pc := 117) C h8 hM gL_isDone_L_isWaited rfl 4 (by decide +kernel) ⟨by show rm.frames + 1 ≤ 13; omega, by show 8 + (10 + 11) + rm.locals ≤ 420; omega⟩ rfl dL_isDone_117 rfl (Nat.le_of_ble_eq_true rfl) rfl ⟨Nat.le_of_eq (Nat.zero_add _), Nat.le_of_eq (Nat.zero_add _)⟩ (fun E hE => hE.elim) ?_
    rintro v G9 ⟨rfl, hq⟩
    exact zzx_ret (zz_ireturn (pc := 120) C dL_isDone_120 rfl (Nat.le_of_eq (Nat.zero_add _)) (Nat.le_of_eq (Nat.zero_add _)) ⟨rfl, hq⟩)
  have K105 : zV p l e ({ frames := 13, cells := rm.cells, slots := rm.slots, locals := 420 } : Room) s m args below meth c D (zA G s.heap.size) 0 0 (zxZ below D G (fun v G9 => v = some (.int 1) ∧ Q9 G9) (fun _ => False) args s ({ frames := 13, cells := rm.cells, slots := rm.slots, locals := 420 } : Room)) G 105 [some (.ref x), some (.ref b9), some (.int (nI t9)), some (.int (nI w9)), some (.int (nI k9)), some (.int (nI a9)), some (.int (nI d9)), none, none, none] [.int c9, .int (nI k9), .ref x] := by
    refine zz_iload (pc := 105) C dL_isDone_105 rfl ?_
    refine zz_iconst (pc := 107) C (v := 2) (by decide) dL_isDone_107 ?_
    refine zz_irem (pc := 108) C (a := a9) (d := 2) dL_isDone_108 rfl rfl (by omega) (by decide) (by decide) ?_
    refine zz_if_ne (pc := 109) C (tgt := 116) dL_isDone_109 (by decide) (fun hc109 => ?_) (fun hc109 => ?_)
    · refine zz_iconst (pc := 116) C (v := 0) (by decide) dL_isDone_116 ?_
      exact zV.less (L' := [some (.ref x), some (.ref b9), some (.int (nI t9)), some (.int (nI w9)), some (.int (nI k9)), some (.int (nI a9)), some (.int (nI d9)), none, none, none]) ⟨rfl, rfl, rfl, rfl, rfl, rfl, rfl, trivial⟩ (zV.topK K117 (by rw [hf9, if_neg hc109]))
    · refine zz_iconst (pc := 112) C (v := 1) (by decide) dL_isDone_112 ?_
      refine zz_goto (pc := 113) C (tgt := 117) dL_isDone_113 (by decide) ?_
      exact zV.less (L' := [some (.ref x), some (.ref b9), some (.int (nI t9)), some (.int (nI w9)), some (.int (nI k9)), some (.int (nI a9)), some (.int (nI d9)), none, none, none]) ⟨rfl, rfl, rfl, rfl, rfl, rfl, rfl, trivial⟩ (zV.topK K117 (by rw [hf9, if_pos (Classical.not_not.mp hc109)]))
  refine zz_iload_n (pc := 48) C dL_isDone_48 rfl ?_
  refine zz_bipush (pc := 49) C (v := 8) (by decide) dL_isDone_49 ?_
  refine zz_icmp_ge (pc := 51) C (tgt := 61) dL_isDone_51 (by decide) (fun hc51 => ?_) (fun hc51 => ?_)
  · refine zz_iload_n (pc := 61) C dL_isDone_61 rfl ?_
    refine zz_bipush (pc := 62) C (v := 10) (by decide) dL_isDone_62 ?_
    refine zz_icmp_ge (pc := 64) C (tgt := 80) dL_isDone_64 (by decide) (fun hc64 => ?_) (fun hc64 => ?_)
    · refine zz_iload_n (pc := 80) C dL_isDone_80 rfl ?_
      refine zz_bipush (pc := 81) C (v := 13) (by decide) dL_isDone_81 ?_
      refine zz_icmp_ge (pc := 83) C (tgt := 121) dL_isDone_83 (by decide) (fun hc83 => ?_) (fun hc83 => ?_)
      · exact absurd ((nI_leI (a := 13) (b := w9) (by decide) (by omega)).mp hc83) (by omega)
      · refine zz_aload_n (pc := 86) C dL_isDone_86 rfl ?_
        refine zz_iload (pc := 87) C dL_isDone_87 rfl ?_
        refine zz_iload (pc := 89) C dL_isDone_89 rfl ?_
        refine zz_iconst (pc := 91) C (v := 3) (by decide) dL_isDone_91 ?_
        refine zz_irem (pc := 92) C (a := a9) (d := 3) dL_isDone_92 rfl rfl (by omega) (by decide) (by decide) ?_
        refine zz_if_ne (pc := 93) C (tgt := 100) dL_isDone_93 (by decide) (fun hc93 => ?_) (fun hc93 => ?_)
        · refine zz_iload (pc := 100) C dL_isDone_100 rfl ?_
          refine zz_bipush (pc := 102) C (v := 42) (by decide) dL_isDone_102 ?_
          refine zz_irem (pc := 104) C (a := d9) (d := 42) dL_isDone_104 rfl rfl (by omega) (by decide) (by decide) ?_
          exact zV.less (L' := [some (.ref x), some (.ref b9), some (.int (nI t9)), some (.int (nI w9)), some (.int (nI k9)), some (.int (nI a9)), some (.int (nI d9)), none, none, none]) ⟨rfl, rfl, rfl, rfl, rfl, rfl, rfl, trivial⟩ (zV.topK K105 (by rw [hc9, if_neg hc93]))
        · refine zz_iconst (pc := 96) C (v := -1) (by decide) dL_isDone_96 ?_
          refine zz_goto (pc := 97) C (tgt := 105) dL_isDone_97 (by decide) ?_
          exact zV.less (L' := [some (.ref x), some (.ref b9), some (.int (nI t9)), some (.int (nI w9)), some (.int (nI k9)), some (.int (nI a9)), some (.int (nI d9)), none, none, none]) ⟨rfl, rfl, rfl, rfl, rfl, rfl, rfl, trivial⟩ (zV.topK K105 (by rw [hc9, if_pos (Classical.not_not.mp hc93)]))
    · exact absurd ((nI_leI (a := 10) (b := w9) (by decide) (by omega)).mpr (by omega)) hc64
  · exact absurd ((nI_leI (a := 8) (b := w9) (by decide) (by omega)).mpr (by omega)) hc51
set_option maxHeartbeats 4000000 in
set_option maxRecDepth 100000 in
theorem d_sign (l : Launch) (hl : l.stackTraces = false) (D : va_G) {B G : zG} {x tb ev : Nat} {A : Nat → Nat} {σ : zS} {m0 : Nat} (hC : zCl B x tb ev A σ [] 0 m0 G) (hI : zIv 0 σ []) {b9 Ln t9 w9 v9 a9 d9 k9 : Nat} {xs : Nat → Int32} (hv : v9 < 2 ^ 31) (ha : a9 < 5000) (hd : d9 < 6000) (P0 : zsMet D l yL_part wsL_part ({ frames := 1, cells := 0, slots := 0, locals := 30 } : Room) [.ref b9, .int (nI t9), .int (nI 30)] G b9 Ln xs (fun v G9 => v = some (.int (nI w9)) ∧ G9 = G) (fun _ => False)) (P1 : zsMet D l yL_part wsL_part ({ frames := 1, cells := 0, slots := 0, locals := 30 } : Room) [.ref b9, .int (nI (t9 + 1)), .int (nI 4000)] G b9 Ln xs (fun v G9 => v = some (.int (nI v9)) ∧ G9 = G) (fun _ => False)) (P2 : zsMet D l yL_part wsL_part ({ frames := 1, cells := 0, slots := 0, locals := 30 } : Room) [.ref b9, .int (nI (t9 + 2)), .int (nI 5000)] G b9 Ln xs (fun v G9 => v = some (.int (nI a9)) ∧ G9 = G) (fun _ => False)) (P3 : zsMet D l yL_part wsL_part ({ frames := 1, cells := 0, slots := 0, locals := 30 } : Room) [.ref b9, .int (nI (t9 + 3)), .int (nI 6000)] G b9 Ln xs (fun v G9 => v = some (.int (nI d9)) ∧ G9 = G) (fun _ => False)) (ek : zPid σ 40 (v9 % 40 + 1) = k9)  (hw : 13 ≤ w9 ∧ w9 < 18)  {rm : Room} (hf : rm.frames ≤ 12 ∧ rm.locals ≤ 340) {Q9 : zG → Prop} (hM : zxMet D l yL_isSignalled wsL_isSignalled rm [.ref x, .int (nI k9), .int (nI (a9 % 10))] G (fun v G9 => v = some (.int 1) ∧ Q9 G9) (fun _ => False)) : zsMet D l yL_isDone wsL_isDone ({ frames := 13, cells := rm.cells, slots := rm.slots, locals := 420 } : Room) [.ref x, .ref b9, .int (nI t9)] G b9 Ln xs (fun v G9 => v = some (.int 1) ∧ Q9 G9) (fun _ => False) := by
  refine zsMet_of (cc := cL_isDone) (maxL := 10) (ret := (some .boolean)) (by decide) rfl (Nat.le_of_ble_eq_true rfl) ?_
  intro p e s m args below meth c C hnx h8 hX hbl hbA
  have hW := hI.wf
  refine t_L_isDone l D hC (rm := rm) C h8 hX hbl hbA hW hv P0 P1 P2 P3 ?_
  rw [ek]
  refine zz_iload_n (pc := 48) C dL_isDone_48 rfl ?_
  refine zz_bipush (pc := 49) C (v := 8) (by decide) dL_isDone_49 ?_
  refine zz_icmp_ge (pc := 51) C (tgt := 61) dL_isDone_51 (by decide) (fun hc51 => ?_) (fun hc51 => ?_)
  · refine zz_iload_n (pc := 61) C dL_isDone_61 rfl ?_
    refine zz_bipush (pc := 62) C (v := 10) (by decide) dL_isDone_62 ?_
    refine zz_icmp_ge (pc := 64) C (tgt := 80) dL_isDone_64 (by decide) (fun hc64 => ?_) (fun hc64 => ?_)
    · refine zz_iload_n (pc := 80) C dL_isDone_80 rfl ?_
      refine zz_bipush (pc := 81) C (v := 13) (by decide) dL_isDone_81 ?_
      refine zz_icmp_ge (pc := 83) C (tgt := 121) dL_isDone_83 (by decide) (fun hc83 => ?_) (fun hc83 => ?_)
      · refine zz_iload_n (pc := 121) C dL_isDone_121 rfl ?_
        refine zz_bipush (pc := 122) C (v := 18) (by decide) dL_isDone_122 ?_
        refine zz_icmp_ge (pc := 124) C (tgt := 139) dL_isDone_124 (by decide) (fun hc124 => ?_) (fun hc124 => ?_)
        · exact absurd ((nI_leI (a := 18) (b := w9) (by decide) (by omega)).mp hc124) (by omega)
        · refine zz_aload_n (pc := 127) C dL_isDone_127 rfl ?_
          refine zz_iload (pc := 128) C dL_isDone_128 rfl ?_
          refine zz_iload (pc := 130) C dL_isDone_130 rfl ?_
          refine zz_bipush (pc := 132) C (v := 10) (by decide) dL_isDone_132 ?_
          refine zz_irem (pc := 134) C (a := a9) (d := 10) dL_isDone_134 rfl rfl (by omega) (by decide) (by decide) ?_
          refine zV.widen (k := 0) (n := 0) (Nat.le_of_ble_eq_true rfl) (Nat.le_of_ble_eq_true rfl) ?_
          refine zzx_callS (pc := 135) C h8 hM gL_isDone_L_isSignalled rfl 3 (by decide +kernel) ⟨by show rm.frames + 1 ≤ 13; omega, by show 8 + (8 + 11) + rm.locals ≤ 420; omega⟩ rfl dL_isDone_135 rfl (Nat.le_of_ble_eq_true rfl) rfl ⟨Nat.le_of_eq (Nat.zero_add _), Nat.le_of_eq (Nat.zero_add _)⟩ (fun E hE => hE.elim) ?_
          rintro v G9 ⟨rfl, hq⟩
          exact zzx_ret (zz_ireturn (pc := 138) C dL_isDone_138 rfl (Nat.le_of_eq (Nat.zero_add _)) (Nat.le_of_eq (Nat.zero_add _)) ⟨rfl, hq⟩)
      · exact absurd ((nI_leI (a := 13) (b := w9) (by decide) (by omega)).mpr (by omega)) hc83
    · exact absurd ((nI_leI (a := 10) (b := w9) (by decide) (by omega)).mpr (by omega)) hc64
  · exact absurd ((nI_leI (a := 8) (b := w9) (by decide) (by omega)).mpr (by omega)) hc51
set_option maxHeartbeats 4000000 in
set_option maxRecDepth 100000 in
theorem d_group (l : Launch) (hl : l.stackTraces = false) (D : va_G) {B G : zG} {x tb ev : Nat} {A : Nat → Nat} {σ : zS} {m0 : Nat} (hC : zCl B x tb ev A σ [] 0 m0 G) (hI : zIv 0 σ []) {b9 Ln t9 w9 v9 a9 d9 k9 : Nat} {xs : Nat → Int32} (hv : v9 < 2 ^ 31) (ha : a9 < 5000) (hd : d9 < 6000) (P0 : zsMet D l yL_part wsL_part ({ frames := 1, cells := 0, slots := 0, locals := 30 } : Room) [.ref b9, .int (nI t9), .int (nI 30)] G b9 Ln xs (fun v G9 => v = some (.int (nI w9)) ∧ G9 = G) (fun _ => False)) (P1 : zsMet D l yL_part wsL_part ({ frames := 1, cells := 0, slots := 0, locals := 30 } : Room) [.ref b9, .int (nI (t9 + 1)), .int (nI 4000)] G b9 Ln xs (fun v G9 => v = some (.int (nI v9)) ∧ G9 = G) (fun _ => False)) (P2 : zsMet D l yL_part wsL_part ({ frames := 1, cells := 0, slots := 0, locals := 30 } : Room) [.ref b9, .int (nI (t9 + 2)), .int (nI 5000)] G b9 Ln xs (fun v G9 => v = some (.int (nI a9)) ∧ G9 = G) (fun _ => False)) (P3 : zsMet D l yL_part wsL_part ({ frames := 1, cells := 0, slots := 0, locals := 30 } : Room) [.ref b9, .int (nI (t9 + 3)), .int (nI 6000)] G b9 Ln xs (fun v G9 => v = some (.int (nI d9)) ∧ G9 = G) (fun _ => False)) (ek : zPid σ 40 (v9 % 40 + 1) = k9) {g9 : Nat} (hw : 18 ≤ w9 ∧ w9 < 21) (eg : (1 : Int32) + nI (a9 % 41) = nI g9) {rm : Room} (hf : rm.frames ≤ 12 ∧ rm.locals ≤ 340) {Q9 : zG → Prop} (hM : zxMet D l yL_isGrouped wsL_isGrouped rm [.ref x, .int (nI k9), .int (nI (zPid σ 40 (d9 % 40 + 1))), .int (nI g9)] G (fun v G9 => v = some (.int 1) ∧ Q9 G9) (fun _ => False)) : zsMet D l yL_isDone wsL_isDone ({ frames := 13, cells := rm.cells, slots := rm.slots, locals := 420 } : Room) [.ref x, .ref b9, .int (nI t9)] G b9 Ln xs (fun v G9 => v = some (.int 1) ∧ Q9 G9) (fun _ => False) := by
  refine zsMet_of (cc := cL_isDone) (maxL := 10) (ret := (some .boolean)) (by decide) rfl (Nat.le_of_ble_eq_true rfl) ?_
  intro p e s m args below meth c C hnx h8 hX hbl hbA
  have hW := hI.wf
  refine t_L_isDone l D hC (rm := rm) C h8 hX hbl hbA hW hv P0 P1 P2 P3 ?_
  rw [ek]
  refine zz_iload_n (pc := 48) C dL_isDone_48 rfl ?_
  refine zz_bipush (pc := 49) C (v := 8) (by decide) dL_isDone_49 ?_
  refine zz_icmp_ge (pc := 51) C (tgt := 61) dL_isDone_51 (by decide) (fun hc51 => ?_) (fun hc51 => ?_)
  · refine zz_iload_n (pc := 61) C dL_isDone_61 rfl ?_
    refine zz_bipush (pc := 62) C (v := 10) (by decide) dL_isDone_62 ?_
    refine zz_icmp_ge (pc := 64) C (tgt := 80) dL_isDone_64 (by decide) (fun hc64 => ?_) (fun hc64 => ?_)
    · refine zz_iload_n (pc := 80) C dL_isDone_80 rfl ?_
      refine zz_bipush (pc := 81) C (v := 13) (by decide) dL_isDone_81 ?_
      refine zz_icmp_ge (pc := 83) C (tgt := 121) dL_isDone_83 (by decide) (fun hc83 => ?_) (fun hc83 => ?_)
      · refine zz_iload_n (pc := 121) C dL_isDone_121 rfl ?_
        refine zz_bipush (pc := 122) C (v := 18) (by decide) dL_isDone_122 ?_
        refine zz_icmp_ge (pc := 124) C (tgt := 139) dL_isDone_124 (by decide) (fun hc124 => ?_) (fun hc124 => ?_)
        · refine zz_iload_n (pc := 139) C dL_isDone_139 rfl ?_
          refine zz_bipush (pc := 140) C (v := 21) (by decide) dL_isDone_140 ?_
          refine zz_icmp_ge (pc := 142) C (tgt := 165) dL_isDone_142 (by decide) (fun hc142 => ?_) (fun hc142 => ?_)
          · exact absurd ((nI_leI (a := 21) (b := w9) (by decide) (by omega)).mp hc142) (by omega)
          · refine zz_aload_n (pc := 145) C dL_isDone_145 rfl ?_
            refine zz_iload (pc := 146) C dL_isDone_146 rfl ?_
            refine zz_aload_n (pc := 148) C dL_isDone_148 rfl ?_
            refine zz_iload (pc := 149) C dL_isDone_149 rfl ?_
            refine zz_callS (pc := 151) C (c_L_pid l D hC hW (v9 := d9) (by omega)) gL_isDone_L_pid rfl 2 (by decide +kernel) ⟨Nat.le_of_ble_eq_true rfl, Nat.le_of_ble_eq_true rfl⟩ rfl dL_isDone_151 rfl (Nat.le_of_ble_eq_true rfl) rfl ⟨Nat.zero_le _, Nat.zero_le _⟩ ?_
            rintro v G9 ⟨rfl, rfl⟩
            refine zz_iconst (pc := 154) C (v := 1) (by decide) dL_isDone_154 ?_
            refine zz_iload (pc := 155) C dL_isDone_155 rfl ?_
            refine zz_bipush (pc := 157) C (v := 41) (by decide) dL_isDone_157 ?_
            refine zz_irem (pc := 159) C (a := a9) (d := 41) dL_isDone_159 rfl rfl (by omega) (by decide) (by decide) ?_
            refine zz_iadd (pc := 160) C dL_isDone_160 ?_
            refine zV.top eg ?_
            refine zV.widen (k := 0) (n := 0) (Nat.le_of_ble_eq_true rfl) (Nat.le_of_ble_eq_true rfl) ?_
            refine zzx_callS (pc := 161) C h8 hM gL_isDone_L_isGrouped rfl 4 (by decide +kernel) ⟨by show rm.frames + 1 ≤ 13; omega, by show 8 + (9 + 11) + rm.locals ≤ 420; omega⟩ rfl dL_isDone_161 rfl (Nat.le_of_ble_eq_true rfl) rfl ⟨Nat.le_of_eq (Nat.zero_add _), Nat.le_of_eq (Nat.zero_add _)⟩ (fun E hE => hE.elim) ?_
            rintro v G9 ⟨rfl, hq⟩
            exact zzx_ret (zz_ireturn (pc := 164) C dL_isDone_164 rfl (Nat.le_of_eq (Nat.zero_add _)) (Nat.le_of_eq (Nat.zero_add _)) ⟨rfl, hq⟩)
        · exact absurd ((nI_leI (a := 18) (b := w9) (by decide) (by omega)).mpr (by omega)) hc124
      · exact absurd ((nI_leI (a := 13) (b := w9) (by decide) (by omega)).mpr (by omega)) hc83
    · exact absurd ((nI_leI (a := 10) (b := w9) (by decide) (by omega)).mpr (by omega)) hc64
  · exact absurd ((nI_leI (a := 8) (b := w9) (by decide) (by omega)).mpr (by omega)) hc51
set_option maxHeartbeats 4000000 in
set_option maxRecDepth 100000 in
theorem d_begin (l : Launch) (hl : l.stackTraces = false) (D : va_G) {B G : zG} {x tb ev : Nat} {A : Nat → Nat} {σ : zS} {m0 : Nat} (hC : zCl B x tb ev A σ [] 0 m0 G) (hI : zIv 0 σ []) {b9 Ln t9 w9 v9 a9 d9 k9 : Nat} {xs : Nat → Int32} (hv : v9 < 2 ^ 31) (ha : a9 < 5000) (hd : d9 < 6000) (P0 : zsMet D l yL_part wsL_part ({ frames := 1, cells := 0, slots := 0, locals := 30 } : Room) [.ref b9, .int (nI t9), .int (nI 30)] G b9 Ln xs (fun v G9 => v = some (.int (nI w9)) ∧ G9 = G) (fun _ => False)) (P1 : zsMet D l yL_part wsL_part ({ frames := 1, cells := 0, slots := 0, locals := 30 } : Room) [.ref b9, .int (nI (t9 + 1)), .int (nI 4000)] G b9 Ln xs (fun v G9 => v = some (.int (nI v9)) ∧ G9 = G) (fun _ => False)) (P2 : zsMet D l yL_part wsL_part ({ frames := 1, cells := 0, slots := 0, locals := 30 } : Room) [.ref b9, .int (nI (t9 + 2)), .int (nI 5000)] G b9 Ln xs (fun v G9 => v = some (.int (nI a9)) ∧ G9 = G) (fun _ => False)) (P3 : zsMet D l yL_part wsL_part ({ frames := 1, cells := 0, slots := 0, locals := 30 } : Room) [.ref b9, .int (nI (t9 + 3)), .int (nI 6000)] G b9 Ln xs (fun v G9 => v = some (.int (nI d9)) ∧ G9 = G) (fun _ => False)) (ek : zPid σ 40 (v9 % 40 + 1) = k9)  (hw : 21 ≤ w9 ∧ w9 < 23)  {rm : Room} (hf : rm.frames ≤ 12 ∧ rm.locals ≤ 340) {Q9 : zG → Prop} (hM : zxMet D l yL_isBegun wsL_isBegun rm [.ref x, .int (nI k9)] G (fun v G9 => v = some (.int 1) ∧ Q9 G9) (fun _ => False)) : zsMet D l yL_isDone wsL_isDone ({ frames := 13, cells := rm.cells, slots := rm.slots, locals := 420 } : Room) [.ref x, .ref b9, .int (nI t9)] G b9 Ln xs (fun v G9 => v = some (.int 1) ∧ Q9 G9) (fun _ => False) := by
  refine zsMet_of (cc := cL_isDone) (maxL := 10) (ret := (some .boolean)) (by decide) rfl (Nat.le_of_ble_eq_true rfl) ?_
  intro p e s m args below meth c C hnx h8 hX hbl hbA
  have hW := hI.wf
  refine t_L_isDone l D hC (rm := rm) C h8 hX hbl hbA hW hv P0 P1 P2 P3 ?_
  rw [ek]
  refine zz_iload_n (pc := 48) C dL_isDone_48 rfl ?_
  refine zz_bipush (pc := 49) C (v := 8) (by decide) dL_isDone_49 ?_
  refine zz_icmp_ge (pc := 51) C (tgt := 61) dL_isDone_51 (by decide) (fun hc51 => ?_) (fun hc51 => ?_)
  · refine zz_iload_n (pc := 61) C dL_isDone_61 rfl ?_
    refine zz_bipush (pc := 62) C (v := 10) (by decide) dL_isDone_62 ?_
    refine zz_icmp_ge (pc := 64) C (tgt := 80) dL_isDone_64 (by decide) (fun hc64 => ?_) (fun hc64 => ?_)
    · refine zz_iload_n (pc := 80) C dL_isDone_80 rfl ?_
      refine zz_bipush (pc := 81) C (v := 13) (by decide) dL_isDone_81 ?_
      refine zz_icmp_ge (pc := 83) C (tgt := 121) dL_isDone_83 (by decide) (fun hc83 => ?_) (fun hc83 => ?_)
      · refine zz_iload_n (pc := 121) C dL_isDone_121 rfl ?_
        refine zz_bipush (pc := 122) C (v := 18) (by decide) dL_isDone_122 ?_
        refine zz_icmp_ge (pc := 124) C (tgt := 139) dL_isDone_124 (by decide) (fun hc124 => ?_) (fun hc124 => ?_)
        · refine zz_iload_n (pc := 139) C dL_isDone_139 rfl ?_
          refine zz_bipush (pc := 140) C (v := 21) (by decide) dL_isDone_140 ?_
          refine zz_icmp_ge (pc := 142) C (tgt := 165) dL_isDone_142 (by decide) (fun hc142 => ?_) (fun hc142 => ?_)
          · refine zz_iload_n (pc := 165) C dL_isDone_165 rfl ?_
            refine zz_bipush (pc := 166) C (v := 23) (by decide) dL_isDone_166 ?_
            refine zz_icmp_ge (pc := 168) C (tgt := 178) dL_isDone_168 (by decide) (fun hc168 => ?_) (fun hc168 => ?_)
            · exact absurd ((nI_leI (a := 23) (b := w9) (by decide) (by omega)).mp hc168) (by omega)
            · refine zz_aload_n (pc := 171) C dL_isDone_171 rfl ?_
              refine zz_iload (pc := 172) C dL_isDone_172 rfl ?_
              refine zV.widen (k := 0) (n := 0) (Nat.le_of_ble_eq_true rfl) (Nat.le_of_ble_eq_true rfl) ?_
              refine zzx_callS (pc := 174) C h8 hM gL_isDone_L_isBegun rfl 2 (by decide +kernel) ⟨by show rm.frames + 1 ≤ 13; omega, by show 8 + (4 + 11) + rm.locals ≤ 420; omega⟩ rfl dL_isDone_174 rfl (Nat.le_of_ble_eq_true rfl) rfl ⟨Nat.le_of_eq (Nat.zero_add _), Nat.le_of_eq (Nat.zero_add _)⟩ (fun E hE => hE.elim) ?_
              rintro v G9 ⟨rfl, hq⟩
              exact zzx_ret (zz_ireturn (pc := 177) C dL_isDone_177 rfl (Nat.le_of_eq (Nat.zero_add _)) (Nat.le_of_eq (Nat.zero_add _)) ⟨rfl, hq⟩)
          · exact absurd ((nI_leI (a := 21) (b := w9) (by decide) (by omega)).mpr (by omega)) hc142
        · exact absurd ((nI_leI (a := 18) (b := w9) (by decide) (by omega)).mpr (by omega)) hc124
      · exact absurd ((nI_leI (a := 13) (b := w9) (by decide) (by omega)).mpr (by omega)) hc83
    · exact absurd ((nI_leI (a := 10) (b := w9) (by decide) (by omega)).mpr (by omega)) hc64
  · exact absurd ((nI_leI (a := 8) (b := w9) (by decide) (by omega)).mpr (by omega)) hc51
set_option maxHeartbeats 4000000 in
set_option maxRecDepth 100000 in
theorem d_term (l : Launch) (hl : l.stackTraces = false) (D : va_G) {B G : zG} {x tb ev : Nat} {A : Nat → Nat} {σ : zS} {m0 : Nat} (hC : zCl B x tb ev A σ [] 0 m0 G) (hI : zIv 0 σ []) {b9 Ln t9 w9 v9 a9 d9 k9 : Nat} {xs : Nat → Int32} (hv : v9 < 2 ^ 31) (ha : a9 < 5000) (hd : d9 < 6000) (P0 : zsMet D l yL_part wsL_part ({ frames := 1, cells := 0, slots := 0, locals := 30 } : Room) [.ref b9, .int (nI t9), .int (nI 30)] G b9 Ln xs (fun v G9 => v = some (.int (nI w9)) ∧ G9 = G) (fun _ => False)) (P1 : zsMet D l yL_part wsL_part ({ frames := 1, cells := 0, slots := 0, locals := 30 } : Room) [.ref b9, .int (nI (t9 + 1)), .int (nI 4000)] G b9 Ln xs (fun v G9 => v = some (.int (nI v9)) ∧ G9 = G) (fun _ => False)) (P2 : zsMet D l yL_part wsL_part ({ frames := 1, cells := 0, slots := 0, locals := 30 } : Room) [.ref b9, .int (nI (t9 + 2)), .int (nI 5000)] G b9 Ln xs (fun v G9 => v = some (.int (nI a9)) ∧ G9 = G) (fun _ => False)) (P3 : zsMet D l yL_part wsL_part ({ frames := 1, cells := 0, slots := 0, locals := 30 } : Room) [.ref b9, .int (nI (t9 + 3)), .int (nI 6000)] G b9 Ln xs (fun v G9 => v = some (.int (nI d9)) ∧ G9 = G) (fun _ => False)) (ek : zPid σ 40 (v9 % 40 + 1) = k9)  (hw : 23 ≤ w9 ∧ w9 < 25)  {rm : Room} (hf : rm.frames ≤ 12 ∧ rm.locals ≤ 340) {Q9 : zG → Prop} (hM : zxMet D l yL_isTerminal wsL_isTerminal rm [.ref x, .int (nI k9), .int (nI a9), .int (nI d9)] G (fun v G9 => v = some (.int 1) ∧ Q9 G9) (fun _ => False)) : zsMet D l yL_isDone wsL_isDone ({ frames := 13, cells := rm.cells, slots := rm.slots, locals := 420 } : Room) [.ref x, .ref b9, .int (nI t9)] G b9 Ln xs (fun v G9 => v = some (.int 1) ∧ Q9 G9) (fun _ => False) := by
  refine zsMet_of (cc := cL_isDone) (maxL := 10) (ret := (some .boolean)) (by decide) rfl (Nat.le_of_ble_eq_true rfl) ?_
  intro p e s m args below meth c C hnx h8 hX hbl hbA
  have hW := hI.wf
  refine t_L_isDone l D hC (rm := rm) C h8 hX hbl hbA hW hv P0 P1 P2 P3 ?_
  rw [ek]
  refine zz_iload_n (pc := 48) C dL_isDone_48 rfl ?_
  refine zz_bipush (pc := 49) C (v := 8) (by decide) dL_isDone_49 ?_
  refine zz_icmp_ge (pc := 51) C (tgt := 61) dL_isDone_51 (by decide) (fun hc51 => ?_) (fun hc51 => ?_)
  · refine zz_iload_n (pc := 61) C dL_isDone_61 rfl ?_
    refine zz_bipush (pc := 62) C (v := 10) (by decide) dL_isDone_62 ?_
    refine zz_icmp_ge (pc := 64) C (tgt := 80) dL_isDone_64 (by decide) (fun hc64 => ?_) (fun hc64 => ?_)
    · refine zz_iload_n (pc := 80) C dL_isDone_80 rfl ?_
      refine zz_bipush (pc := 81) C (v := 13) (by decide) dL_isDone_81 ?_
      refine zz_icmp_ge (pc := 83) C (tgt := 121) dL_isDone_83 (by decide) (fun hc83 => ?_) (fun hc83 => ?_)
      · refine zz_iload_n (pc := 121) C dL_isDone_121 rfl ?_
        refine zz_bipush (pc := 122) C (v := 18) (by decide) dL_isDone_122 ?_
        refine zz_icmp_ge (pc := 124) C (tgt := 139) dL_isDone_124 (by decide) (fun hc124 => ?_) (fun hc124 => ?_)
        · refine zz_iload_n (pc := 139) C dL_isDone_139 rfl ?_
          refine zz_bipush (pc := 140) C (v := 21) (by decide) dL_isDone_140 ?_
          refine zz_icmp_ge (pc := 142) C (tgt := 165) dL_isDone_142 (by decide) (fun hc142 => ?_) (fun hc142 => ?_)
          · refine zz_iload_n (pc := 165) C dL_isDone_165 rfl ?_
            refine zz_bipush (pc := 166) C (v := 23) (by decide) dL_isDone_166 ?_
            refine zz_icmp_ge (pc := 168) C (tgt := 178) dL_isDone_168 (by decide) (fun hc168 => ?_) (fun hc168 => ?_)
            · refine zz_iload_n (pc := 178) C dL_isDone_178 rfl ?_
              refine zz_bipush (pc := 179) C (v := 25) (by decide) dL_isDone_179 ?_
              refine zz_icmp_ge (pc := 181) C (tgt := 195) dL_isDone_181 (by decide) (fun hc181 => ?_) (fun hc181 => ?_)
              · exact absurd ((nI_leI (a := 25) (b := w9) (by decide) (by omega)).mp hc181) (by omega)
              · refine zz_aload_n (pc := 184) C dL_isDone_184 rfl ?_
                refine zz_iload (pc := 185) C dL_isDone_185 rfl ?_
                refine zz_iload (pc := 187) C dL_isDone_187 rfl ?_
                refine zz_iload (pc := 189) C dL_isDone_189 rfl ?_
                refine zV.widen (k := 0) (n := 0) (Nat.le_of_ble_eq_true rfl) (Nat.le_of_ble_eq_true rfl) ?_
                refine zzx_callS (pc := 191) C h8 hM gL_isDone_L_isTerminal rfl 4 (by decide +kernel) ⟨by show rm.frames + 1 ≤ 13; omega, by show 8 + (10 + 11) + rm.locals ≤ 420; omega⟩ rfl dL_isDone_191 rfl (Nat.le_of_ble_eq_true rfl) rfl ⟨Nat.le_of_eq (Nat.zero_add _), Nat.le_of_eq (Nat.zero_add _)⟩ (fun E hE => hE.elim) ?_
                rintro v G9 ⟨rfl, hq⟩
                exact zzx_ret (zz_ireturn (pc := 194) C dL_isDone_194 rfl (Nat.le_of_eq (Nat.zero_add _)) (Nat.le_of_eq (Nat.zero_add _)) ⟨rfl, hq⟩)
            · exact absurd ((nI_leI (a := 23) (b := w9) (by decide) (by omega)).mpr (by omega)) hc168
          · exact absurd ((nI_leI (a := 21) (b := w9) (by decide) (by omega)).mpr (by omega)) hc142
        · exact absurd ((nI_leI (a := 18) (b := w9) (by decide) (by omega)).mpr (by omega)) hc124
      · exact absurd ((nI_leI (a := 13) (b := w9) (by decide) (by omega)).mpr (by omega)) hc83
    · exact absurd ((nI_leI (a := 10) (b := w9) (by decide) (by omega)).mpr (by omega)) hc64
  · exact absurd ((nI_leI (a := 8) (b := w9) (by decide) (by omega)).mpr (by omega)) hc51
