set_option maxHeartbeats 4000000 in
set_option maxRecDepth 100000 in
theorem lw_c13 {p : Program} {l : Launch} {e : Env} {s : State} {m : MethodId} {below : List Frame} {meth : Method} {c : Code} {D : va_G} {b Ln : Nat} {xs : Nat → Int32} {Q : State → Prop} (hl : l.stackTraces = false) (K : zLw p s m meth c D b Ln xs) {G : zG} {x y o j m0 cells slots : Nat} {σ : zS} (hI : zInv G x y o σ m0) (h1 : vp_in (nI j + 1) Ln) (h2 : vp_in (nI j + 2) Ln) (h3 : vp_in (nI j + 3) Ln) (hr1 : cells + (8 + (16384 - zK m0)) ≤ 601024) (hr2 : slots + (48 + 4 * (16384 - zK m0)) ≤ 7293033)
    (kk : ∀ (G' : zG) (σ' : zS) (m' : Nat), zInv G' x y o σ' m' → m0 ≤ m' → zV p l e room_1 s m #[Value.ref b] below meth c D (lA s) (cells + (8 + (zK m' - zK m0))) (slots + (48 + 4 * (zK m' - zK m0))) Q G' 1886 (lL b x y o (nI j)) []) : zV p l e room_1 s m #[Value.ref b] below meth c D (lA s) cells slots Q G 1033 (lL b x y o (nI j)) [] := by
  obtain ⟨C, hX, hbl, h8⟩ := K
  have hbA : ¬ lA s b := Nat.not_le.mpr hbl
  obtain ⟨hW, ⟨tb, ev, A, hC⟩, ⟨ma, th, hM⟩, w, ho⟩ := hI
  obtain ⟨a1, e1⟩ : ∃ z, xs (nI j + 1).toNatClampNeg = z := ⟨_, rfl⟩
  obtain ⟨a2, e2⟩ : ∃ z, xs (nI j + 2).toNatClampNeg = z := ⟨_, rfl⟩
  obtain ⟨N, hrd, hNw, hNm⟩ := zPick (TH := zE1 (a1 < 1 ∨ (40 : Int32) < a1 ∨ a2 < 0 ∨ ¬ a2 < 9)) (X := (σ, zSends σ a1 (pn a2) 41)) (m0 := m0) (fun z => zk_sendToGroup hW z)
  refine zz_aload_n (pc := 1033) C dL_law_1033 rfl ?_
  refine zz_aload_n (pc := 1034) C dL_law_1034 rfl ?_
  refine zz_iload (pc := 1035) C dL_law_1035 rfl ?_
  refine zz_iconst (pc := 1037) C (v := 1) (by decide) dL_law_1037 ?_
  refine zz_iadd (pc := 1038) C dL_law_1038 ?_
  refine zz_sld (pc := 1039) C hX hbl hbA h1 e1 dL_law_1039 ?_
  refine zz_aload_n (pc := 1040) C dL_law_1040 rfl ?_
  refine zz_iload (pc := 1041) C dL_law_1041 rfl ?_
  refine zz_iconst (pc := 1043) C (v := 2) (by decide) dL_law_1043 ?_
  refine zz_iadd (pc := 1044) C dL_law_1044 ?_
  refine zz_sld (pc := 1045) C hX hbl hbA h2 e2 dL_law_1045 ?_
  refine zz_aload_n (pc := 1046) C dL_law_1046 rfl ?_
  refine zzx_callSW (pc := 1047) C h8 (c_L_sendToGroup l hl D (G := G) (g9 := a1) (s9 := a2) (X := (σ, zSends σ a1 (pn a2) 41)) (N := N) hC rfl hrd ho) gL_law_L_sendToGroup rfl 4 (by decide +kernel) ⟨Nat.le_of_ble_eq_true rfl, Nat.le_of_ble_eq_true rfl⟩ rfl dL_law_1047 rfl (Nat.le_of_ble_eq_true rfl) rfl ⟨zRmC hr1 (Nat.le_refl _) (Nat.le_of_ble_eq_true rfl), zRmS hr2 (Nat.le_refl _) (Nat.le_of_ble_eq_true rfl)⟩ (fun E hE => hE.elim) ?_
  rintro v G9 ⟨rfl, ⟨A9, hC9⟩, ⟨w9, ho9, hw9⟩, hk2⟩
  obtain ⟨r, hR, hag, hrth, hring⟩ := hM.mv hk2
  refine zz_istore (pc := 1050) C dL_law_1050 (Nat.le_of_ble_eq_true rfl) ?_
  refine zz_aload_n (pc := 1052) C dL_law_1052 rfl ?_
  refine zz_aload_n (pc := 1053) C dL_law_1053 rfl ?_
  refine zz_iload (pc := 1054) C dL_law_1054 rfl ?_
  refine zz_iconst (pc := 1056) C (v := 1) (by decide) dL_law_1056 ?_
  refine zz_iadd (pc := 1057) C dL_law_1057 ?_
  refine zz_sld (pc := 1058) C hX hbl hbA h1 e1 dL_law_1058 ?_
  refine zz_aload_n (pc := 1059) C dL_law_1059 rfl ?_
  refine zz_iload (pc := 1060) C dL_law_1060 rfl ?_
  refine zz_iconst (pc := 1062) C (v := 2) (by decide) dL_law_1062 ?_
  refine zz_iadd (pc := 1063) C dL_law_1063 ?_
  refine zz_sld (pc := 1064) C hX hbl hbA h2 e2 dL_law_1064 ?_
  have hq1 := zRmU (a := (zRmX 10 252 m0 (zCount N ((σ, zSends σ a1 (pn a2) 41)).1 ((σ, zSends σ a1 (pn a2) 41)).2) 2).cells) hr1 (Nat.add_le_add (Nat.le_of_ble_eq_true rfl) (Nat.le_refl _))
  have hq2 := zRmV (a := (zRmX 10 252 m0 (zCount N ((σ, zSends σ a1 (pn a2) 41)).1 ((σ, zSends σ a1 (pn a2) 41)).2) 2).slots) hr2 (Nat.add_le_add (Nat.le_of_ble_eq_true rfl) (Nat.le_refl _))
  refine zz_callV (pc := 1065) C (c_X3_sendToGroup l D (σ := σ) (g9 := a1) (s9 := a2) (N := N) hR hag hring hW.z (fun z => (hrd z).x)) gL_law_X3_sendToGroup rfl 2 (by decide +kernel) ⟨Nat.le_of_ble_eq_true rfl, Nat.le_of_ble_eq_true rfl⟩ hR.2.1 (ci := 3) rfl rfl rfl dL_law_1065 rfl (Nat.le_of_ble_eq_true rfl) rfl ⟨hq1, hq2⟩ ?_
  rintro v G10 ⟨rfl, hM10⟩
  obtain ⟨r10, hR10, hag10, hth10, hring10⟩ := id hM10
  refine zz_istore (pc := 1068) C dL_law_1068 (Nat.le_of_ble_eq_true rfl) ?_
  refine zz_aload_n (pc := 1070) C dL_law_1070 rfl ?_
  refine zz_callV (pc := 1071) C (c_X3_thrown l D hR10) gL_law_X3_thrown rfl 0 (by decide +kernel) ⟨Nat.le_of_ble_eq_true rfl, Nat.le_of_ble_eq_true rfl⟩ hR10.2.1 (ci := 3) rfl rfl rfl dL_law_1071 rfl (Nat.le_of_ble_eq_true rfl) rfl ⟨zRoom0 hq1, zRoom0 hq2⟩ ?_
  rintro v G11 ⟨rfl, rfl⟩
  rw [hth10]
  refine zz_iload (pc := 1074) C dL_law_1074 rfl ?_
  refine zz_icmp_eq (pc := 1076) C (tgt := 1081) dL_law_1076 (by decide) (fun _ => ?_) (fun h => absurd rfl h)
  refine zz_iload (pc := 1081) C dL_law_1081 rfl ?_
  refine zz_if_ne (pc := 1083) C (tgt := 1098) dL_law_1083 (by decide) (fun _ => ?_) (fun hcz => ?_)
  · refine zV.less (L' := lL b x y o (nI j)) ⟨rfl, rfl, rfl, rfl, rfl, trivial⟩ ?_
    refine zz_goto (pc := 1098) C (tgt := 1886) dL_law_1098 (by decide) ?_
    exact zV.widen (zLe3 (Nat.add_le_add (Nat.le_of_ble_eq_true rfl) (Nat.le_of_eq hNw)) rfl rfl) (zLe3 (Nat.add_le_add (Nat.le_of_ble_eq_true rfl) (Nat.mul_le_mul_left 4 (Nat.le_of_eq hNw))) rfl rfl) (kk _ _ (if zE1 (a1 < 1 ∨ (40 : Int32) < a1 ∨ a2 < 0 ∨ ¬ a2 < 9) = 0 then max m0 (zCount N ((σ, zSends σ a1 (pn a2) 41)).1 ((σ, zSends σ a1 (pn a2) 41)).2) else m0) (zInv_of (zIfW (fun z => (hrd z).wf) hW) hC9 ho9 hM10) hNm)
  · skip
    refine zz_aload_n (pc := 1086) C dL_law_1086 rfl ?_
    refine zz_iconst (pc := 1087) C (v := 0) (by decide) dL_law_1087 ?_
    refine zz_lald (pc := 1088) C dL_law_1088 (n := 1) (hM10.fr o 3 _ ho9 (by decide)) (by unfold vp_in; decide) ?_
    refine zz_iload (pc := 1089) C dL_law_1089 rfl ?_
    refine zz_i2l (pc := 1091) C dL_law_1091 ?_
    refine zz_lcmp (pc := 1092) C dL_law_1092 ?_
    refine zz_if_eq (pc := 1093) C (tgt := 1098) dL_law_1093 (by decide) (fun _ => ?_) (fun h => absurd (zCmp_i hw9 (Classical.not_not.mp hcz)) h)
    refine zV.less (L' := lL b x y o (nI j)) ⟨rfl, rfl, rfl, rfl, rfl, trivial⟩ ?_
    refine zz_goto (pc := 1098) C (tgt := 1886) dL_law_1098 (by decide) ?_
    exact zV.widen (zLe3 (Nat.add_le_add (Nat.le_of_ble_eq_true rfl) (Nat.le_of_eq hNw)) rfl rfl) (zLe3 (Nat.add_le_add (Nat.le_of_ble_eq_true rfl) (Nat.mul_le_mul_left 4 (Nat.le_of_eq hNw))) rfl rfl) (kk _ _ (if zE1 (a1 < 1 ∨ (40 : Int32) < a1 ∨ a2 < 0 ∨ ¬ a2 < 9) = 0 then max m0 (zCount N ((σ, zSends σ a1 (pn a2) 41)).1 ((σ, zSends σ a1 (pn a2) 41)).2) else m0) (zInv_of (zIfW (fun z => (hrd z).wf) hW) hC9 ho9 hM10) hNm)
set_option maxHeartbeats 4000000 in
set_option maxRecDepth 100000 in
theorem lw_c14 {p : Program} {l : Launch} {e : Env} {s : State} {m : MethodId} {below : List Frame} {meth : Method} {c : Code} {D : va_G} {b Ln : Nat} {xs : Nat → Int32} {Q : State → Prop} (hl : l.stackTraces = false) (K : zLw p s m meth c D b Ln xs) {G : zG} {x y o j m0 cells slots : Nat} {σ : zS} (hI : zInv G x y o σ m0) (h1 : vp_in (nI j + 1) Ln) (h2 : vp_in (nI j + 2) Ln) (h3 : vp_in (nI j + 3) Ln) (hr1 : cells + (8 + (16384 - zK m0)) ≤ 601024) (hr2 : slots + (48 + 4 * (16384 - zK m0)) ≤ 7293033)
    (kk : ∀ (G' : zG) (σ' : zS) (m' : Nat), zInv G' x y o σ' m' → m0 ≤ m' → zV p l e room_1 s m #[Value.ref b] below meth c D (lA s) (cells + (8 + (zK m' - zK m0))) (slots + (48 + 4 * (zK m' - zK m0))) Q G' 1886 (lL b x y o (nI j)) []) : zV p l e room_1 s m #[Value.ref b] below meth c D (lA s) cells slots Q G 1101 (lL b x y o (nI j)) [] := by
  obtain ⟨C, hX, hbl, h8⟩ := K
  have hbA : ¬ lA s b := Nat.not_le.mpr hbl
  obtain ⟨hW, ⟨tb, ev, A, hC⟩, ⟨ma, th, hM⟩, w, ho⟩ := hI
  obtain ⟨a1, e1⟩ : ∃ z, xs (nI j + 1).toNatClampNeg = z := ⟨_, rfl⟩
  obtain ⟨f1, ef1⟩ : ∃ f, (if a1 = 0 then (0 : Int32) else 1) = f := ⟨_, rfl⟩
  have hf1 := zFl01 ef1
  obtain ⟨N, hrd, hNw, hNm⟩ := zPick (TH := zE1 (σ 21 0 = -1)) (X := (σ, zSends σ (σ 22 0) (pn (if f1 = 0 then (1 : Int32) else 6)) 41)) (m0 := m0) (fun z => zk_type hW (zSg6 _) z)
  refine zz_aload_n (pc := 1101) C dL_law_1101 rfl ?_
  refine zz_aload_n (pc := 1102) C dL_law_1102 rfl ?_
  refine zz_iload (pc := 1103) C dL_law_1103 rfl ?_
  refine zz_iconst (pc := 1105) C (v := 1) (by decide) dL_law_1105 ?_
  refine zz_iadd (pc := 1106) C dL_law_1106 ?_
  refine zz_sld (pc := 1107) C hX hbl hbA h1 e1 dL_law_1107 ?_
  refine zz_flag (pc := 1108) C ef1 dL_law_1108 dL_law_1111 dL_law_1112 dL_law_1115 ?_
  refine zz_aload_n (pc := 1116) C dL_law_1116 rfl ?_
  refine zzx_callSW (pc := 1117) C h8 (c_L_type l hl D (G := G) (f9 := f1) (s9 := (if f1 = 0 then (1 : Int32) else 6)) (X := (σ, zSends σ (σ 22 0) (pn (if f1 = 0 then (1 : Int32) else 6)) 41)) (N := N) hC (zSg6 _) rfl hrd ho) gL_law_L_type rfl 3 (by decide +kernel) ⟨Nat.le_of_ble_eq_true rfl, Nat.le_of_ble_eq_true rfl⟩ rfl dL_law_1117 rfl (Nat.le_of_ble_eq_true rfl) rfl ⟨zRmC hr1 (Nat.le_refl _) (Nat.le_of_ble_eq_true rfl), zRmS hr2 (Nat.le_refl _) (Nat.le_of_ble_eq_true rfl)⟩ (fun E hE => hE.elim) ?_
  rintro v G9 ⟨rfl, ⟨A9, hC9⟩, ⟨w9, ho9, hw9⟩, hk2⟩
  obtain ⟨r, hR, hag, hrth, hring⟩ := hM.mv hk2
  refine zz_istore (pc := 1120) C dL_law_1120 (Nat.le_of_ble_eq_true rfl) ?_
  refine zz_aload_n (pc := 1122) C dL_law_1122 rfl ?_
  refine zz_aload_n (pc := 1123) C dL_law_1123 rfl ?_
  refine zz_iload (pc := 1124) C dL_law_1124 rfl ?_
  refine zz_iconst (pc := 1126) C (v := 1) (by decide) dL_law_1126 ?_
  refine zz_iadd (pc := 1127) C dL_law_1127 ?_
  refine zz_sld (pc := 1128) C hX hbl hbA h1 e1 dL_law_1128 ?_
  refine zz_flag (pc := 1129) C ef1 dL_law_1129 dL_law_1132 dL_law_1133 dL_law_1136 ?_
  have hq1 := zRmU (a := (zRmX 10 251 m0 (zCount N ((σ, zSends σ (σ 22 0) (pn (if f1 = 0 then (1 : Int32) else 6)) 41)).1 ((σ, zSends σ (σ 22 0) (pn (if f1 = 0 then (1 : Int32) else 6)) 41)).2) 1).cells) hr1 (Nat.add_le_add (Nat.le_of_ble_eq_true rfl) (Nat.le_refl _))
  have hq2 := zRmV (a := (zRmX 10 251 m0 (zCount N ((σ, zSends σ (σ 22 0) (pn (if f1 = 0 then (1 : Int32) else 6)) 41)).1 ((σ, zSends σ (σ 22 0) (pn (if f1 = 0 then (1 : Int32) else 6)) 41)).2) 1).slots) hr2 (Nat.add_le_add (Nat.le_of_ble_eq_true rfl) (Nat.le_refl _))
  refine zz_callV (pc := 1137) C (c_X3_type l D (σ := σ) (f9 := f1) (s9 := (if f1 = 0 then (1 : Int32) else 6)) (N := N) hR hag hring hW.z (zSg6 _) (fun z => (hrd z).x)) gL_law_X3_type rfl 1 (by decide +kernel) ⟨Nat.le_of_ble_eq_true rfl, Nat.le_of_ble_eq_true rfl⟩ hR.2.1 (ci := 3) rfl rfl rfl dL_law_1137 rfl (Nat.le_of_ble_eq_true rfl) rfl ⟨hq1, hq2⟩ ?_
  rintro v G10 ⟨rfl, hM10⟩
  obtain ⟨r10, hR10, hag10, hth10, hring10⟩ := id hM10
  refine zz_istore (pc := 1140) C dL_law_1140 (Nat.le_of_ble_eq_true rfl) ?_
  refine zz_aload_n (pc := 1142) C dL_law_1142 rfl ?_
  refine zz_callV (pc := 1143) C (c_X3_thrown l D hR10) gL_law_X3_thrown rfl 0 (by decide +kernel) ⟨Nat.le_of_ble_eq_true rfl, Nat.le_of_ble_eq_true rfl⟩ hR10.2.1 (ci := 3) rfl rfl rfl dL_law_1143 rfl (Nat.le_of_ble_eq_true rfl) rfl ⟨zRoom0 hq1, zRoom0 hq2⟩ ?_
  rintro v G11 ⟨rfl, rfl⟩
  rw [hth10]
  refine zz_iload (pc := 1146) C dL_law_1146 rfl ?_
  refine zz_icmp_eq (pc := 1148) C (tgt := 1153) dL_law_1148 (by decide) (fun _ => ?_) (fun h => absurd rfl h)
  refine zz_iload (pc := 1153) C dL_law_1153 rfl ?_
  refine zz_if_ne (pc := 1155) C (tgt := 1170) dL_law_1155 (by decide) (fun _ => ?_) (fun hcz => ?_)
  · refine zV.less (L' := lL b x y o (nI j)) ⟨rfl, rfl, rfl, rfl, rfl, trivial⟩ ?_
    refine zz_goto (pc := 1170) C (tgt := 1886) dL_law_1170 (by decide) ?_
    exact zV.widen (zLe3 (Nat.add_le_add (Nat.le_of_ble_eq_true rfl) (Nat.le_of_eq hNw)) rfl rfl) (zLe3 (Nat.add_le_add (Nat.le_of_ble_eq_true rfl) (Nat.mul_le_mul_left 4 (Nat.le_of_eq hNw))) rfl rfl) (kk _ _ (if zE1 (σ 21 0 = -1) = 0 then max m0 (zCount N ((σ, zSends σ (σ 22 0) (pn (if f1 = 0 then (1 : Int32) else 6)) 41)).1 ((σ, zSends σ (σ 22 0) (pn (if f1 = 0 then (1 : Int32) else 6)) 41)).2) else m0) (zInv_of (zIfW (fun z => (hrd z).wf) hW) hC9 ho9 hM10) hNm)
  · skip
    refine zz_aload_n (pc := 1158) C dL_law_1158 rfl ?_
    refine zz_iconst (pc := 1159) C (v := 0) (by decide) dL_law_1159 ?_
    refine zz_lald (pc := 1160) C dL_law_1160 (n := 1) (hM10.fr o 3 _ ho9 (by decide)) (by unfold vp_in; decide) ?_
    refine zz_iload (pc := 1161) C dL_law_1161 rfl ?_
    refine zz_i2l (pc := 1163) C dL_law_1163 ?_
    refine zz_lcmp (pc := 1164) C dL_law_1164 ?_
    refine zz_if_eq (pc := 1165) C (tgt := 1170) dL_law_1165 (by decide) (fun _ => ?_) (fun h => absurd (zCmp_i hw9 (Classical.not_not.mp hcz)) h)
    refine zV.less (L' := lL b x y o (nI j)) ⟨rfl, rfl, rfl, rfl, rfl, trivial⟩ ?_
    refine zz_goto (pc := 1170) C (tgt := 1886) dL_law_1170 (by decide) ?_
    exact zV.widen (zLe3 (Nat.add_le_add (Nat.le_of_ble_eq_true rfl) (Nat.le_of_eq hNw)) rfl rfl) (zLe3 (Nat.add_le_add (Nat.le_of_ble_eq_true rfl) (Nat.mul_le_mul_left 4 (Nat.le_of_eq hNw))) rfl rfl) (kk _ _ (if zE1 (σ 21 0 = -1) = 0 then max m0 (zCount N ((σ, zSends σ (σ 22 0) (pn (if f1 = 0 then (1 : Int32) else 6)) 41)).1 ((σ, zSends σ (σ 22 0) (pn (if f1 = 0 then (1 : Int32) else 6)) 41)).2) else m0) (zInv_of (zIfW (fun z => (hrd z).wf) hW) hC9 ho9 hM10) hNm)
set_option maxHeartbeats 4000000 in
set_option maxRecDepth 100000 in
theorem lw_c15 {p : Program} {l : Launch} {e : Env} {s : State} {m : MethodId} {below : List Frame} {meth : Method} {c : Code} {D : va_G} {b Ln : Nat} {xs : Nat → Int32} {Q : State → Prop} (hl : l.stackTraces = false) (K : zLw p s m meth c D b Ln xs) {G : zG} {x y o j m0 cells slots : Nat} {σ : zS} (hI : zInv G x y o σ m0) (h1 : vp_in (nI j + 1) Ln) (h2 : vp_in (nI j + 2) Ln) (h3 : vp_in (nI j + 3) Ln) (hr1 : cells + (8 + (16384 - zK m0)) ≤ 601024) (hr2 : slots + (48 + 4 * (16384 - zK m0)) ≤ 7293033)
    (kk : ∀ (G' : zG) (σ' : zS) (m' : Nat), zInv G' x y o σ' m' → m0 ≤ m' → zV p l e room_1 s m #[Value.ref b] below meth c D (lA s) (cells + (8 + (zK m' - zK m0))) (slots + (48 + 4 * (zK m' - zK m0))) Q G' 1886 (lL b x y o (nI j)) []) : zV p l e room_1 s m #[Value.ref b] below meth c D (lA s) cells slots Q G 1173 (lL b x y o (nI j)) [] := by
  obtain ⟨C, hX, hbl, h8⟩ := K
  have hbA : ¬ lA s b := Nat.not_le.mpr hbl
  obtain ⟨hW, ⟨tb, ev, A, hC⟩, ⟨ma, th, hM⟩, w, ho⟩ := hI
  obtain ⟨N, hrd, hNw, hNm⟩ := zPick (TH := zE1 (σ 21 0 = -1)) (X := (zFreeT σ, [(0, pn (σ 21 0))])) (m0 := m0) (fun z => zk_hangUp hW z)
  refine zz_aload_n (pc := 1173) C dL_law_1173 rfl ?_
  refine zz_aload_n (pc := 1174) C dL_law_1174 rfl ?_
  refine zzx_callSW (pc := 1175) C h8 (c_L_hangUp l hl D (G := G)  (X := (zFreeT σ, [(0, pn (σ 21 0))])) (N := N) hC hW rfl hrd ho) gL_law_L_hangUp rfl 2 (by decide +kernel) ⟨Nat.le_of_ble_eq_true rfl, Nat.le_of_ble_eq_true rfl⟩ rfl dL_law_1175 rfl (Nat.le_of_ble_eq_true rfl) rfl ⟨zRmC hr1 (Nat.le_refl _) (Nat.le_of_ble_eq_true rfl), zRmS hr2 (Nat.le_refl _) (Nat.le_of_ble_eq_true rfl)⟩ (fun E hE => hE.elim) ?_
  rintro v G9 ⟨rfl, ⟨A9, hC9⟩, ⟨w9, ho9, hw9⟩, hk2⟩
  obtain ⟨r, hR, hag, hrth, hring⟩ := hM.mv hk2
  refine zz_istore (pc := 1178) C dL_law_1178 (Nat.le_of_ble_eq_true rfl) ?_
  refine zz_aload_n (pc := 1180) C dL_law_1180 rfl ?_
  have hq1 := zRmU (a := (zRmX 10 250 m0 (zCount N ((zFreeT σ, [(0, pn (σ 21 0))])).1 ((zFreeT σ, [(0, pn (σ 21 0))])).2) 1).cells) hr1 (Nat.add_le_add (Nat.le_of_ble_eq_true rfl) (Nat.le_refl _))
  have hq2 := zRmV (a := (zRmX 10 250 m0 (zCount N ((zFreeT σ, [(0, pn (σ 21 0))])).1 ((zFreeT σ, [(0, pn (σ 21 0))])).2) 1).slots) hr2 (Nat.add_le_add (Nat.le_of_ble_eq_true rfl) (Nat.le_refl _))
  refine zz_callV (pc := 1181) C (c_X3_hangUp l D (σ := σ)  (N := N) hR hag hring hW.t21 (fun z => (hrd z).x)) gL_law_X3_hangUp rfl 0 (by decide +kernel) ⟨Nat.le_of_ble_eq_true rfl, Nat.le_of_ble_eq_true rfl⟩ hR.2.1 (ci := 3) rfl rfl rfl dL_law_1181 rfl (Nat.le_of_ble_eq_true rfl) rfl ⟨hq1, hq2⟩ ?_
  rintro v G10 ⟨rfl, hM10⟩
  obtain ⟨r10, hR10, hag10, hth10, hring10⟩ := id hM10
  refine zz_istore (pc := 1184) C dL_law_1184 (Nat.le_of_ble_eq_true rfl) ?_
  refine zz_aload_n (pc := 1186) C dL_law_1186 rfl ?_
  refine zz_callV (pc := 1187) C (c_X3_thrown l D hR10) gL_law_X3_thrown rfl 0 (by decide +kernel) ⟨Nat.le_of_ble_eq_true rfl, Nat.le_of_ble_eq_true rfl⟩ hR10.2.1 (ci := 3) rfl rfl rfl dL_law_1187 rfl (Nat.le_of_ble_eq_true rfl) rfl ⟨zRoom0 hq1, zRoom0 hq2⟩ ?_
  rintro v G11 ⟨rfl, rfl⟩
  rw [hth10]
  refine zz_iload (pc := 1190) C dL_law_1190 rfl ?_
  refine zz_icmp_eq (pc := 1192) C (tgt := 1197) dL_law_1192 (by decide) (fun _ => ?_) (fun h => absurd rfl h)
  refine zz_iload (pc := 1197) C dL_law_1197 rfl ?_
  refine zz_if_ne (pc := 1199) C (tgt := 1214) dL_law_1199 (by decide) (fun _ => ?_) (fun hcz => ?_)
  · refine zV.less (L' := lL b x y o (nI j)) ⟨rfl, rfl, rfl, rfl, rfl, trivial⟩ ?_
    refine zz_goto (pc := 1214) C (tgt := 1886) dL_law_1214 (by decide) ?_
    exact zV.widen (zLe3 (Nat.add_le_add (Nat.le_of_ble_eq_true rfl) (Nat.le_of_eq hNw)) rfl rfl) (zLe3 (Nat.add_le_add (Nat.le_of_ble_eq_true rfl) (Nat.mul_le_mul_left 4 (Nat.le_of_eq hNw))) rfl rfl) (kk _ _ (if zE1 (σ 21 0 = -1) = 0 then max m0 (zCount N ((zFreeT σ, [(0, pn (σ 21 0))])).1 ((zFreeT σ, [(0, pn (σ 21 0))])).2) else m0) (zInv_of (zIfW (fun z => (hrd z).wf) hW) hC9 ho9 hM10) hNm)
  · skip
    refine zz_aload_n (pc := 1202) C dL_law_1202 rfl ?_
    refine zz_iconst (pc := 1203) C (v := 0) (by decide) dL_law_1203 ?_
    refine zz_lald (pc := 1204) C dL_law_1204 (n := 1) (hM10.fr o 3 _ ho9 (by decide)) (by unfold vp_in; decide) ?_
    refine zz_iload (pc := 1205) C dL_law_1205 rfl ?_
    refine zz_i2l (pc := 1207) C dL_law_1207 ?_
    refine zz_lcmp (pc := 1208) C dL_law_1208 ?_
    refine zz_if_eq (pc := 1209) C (tgt := 1214) dL_law_1209 (by decide) (fun _ => ?_) (fun h => absurd (zCmp_i hw9 (Classical.not_not.mp hcz)) h)
    refine zV.less (L' := lL b x y o (nI j)) ⟨rfl, rfl, rfl, rfl, rfl, trivial⟩ ?_
    refine zz_goto (pc := 1214) C (tgt := 1886) dL_law_1214 (by decide) ?_
    exact zV.widen (zLe3 (Nat.add_le_add (Nat.le_of_ble_eq_true rfl) (Nat.le_of_eq hNw)) rfl rfl) (zLe3 (Nat.add_le_add (Nat.le_of_ble_eq_true rfl) (Nat.mul_le_mul_left 4 (Nat.le_of_eq hNw))) rfl rfl) (kk _ _ (if zE1 (σ 21 0 = -1) = 0 then max m0 (zCount N ((zFreeT σ, [(0, pn (σ 21 0))])).1 ((zFreeT σ, [(0, pn (σ 21 0))])).2) else m0) (zInv_of (zIfW (fun z => (hrd z).wf) hW) hC9 ho9 hM10) hNm)
set_option maxHeartbeats 4000000 in
set_option maxRecDepth 100000 in
theorem lw_c16 {p : Program} {l : Launch} {e : Env} {s : State} {m : MethodId} {below : List Frame} {meth : Method} {c : Code} {D : va_G} {b Ln : Nat} {xs : Nat → Int32} {Q : State → Prop} (hl : l.stackTraces = false) (K : zLw p s m meth c D b Ln xs) {G : zG} {x y o j m0 cells slots : Nat} {σ : zS} (hI : zInv G x y o σ m0) (h1 : vp_in (nI j + 1) Ln) (h2 : vp_in (nI j + 2) Ln) (h3 : vp_in (nI j + 3) Ln) (hr1 : cells + (8 + (16384 - zK m0)) ≤ 601024) (hr2 : slots + (48 + 4 * (16384 - zK m0)) ≤ 7293033)
    (kk : ∀ (G' : zG) (σ' : zS) (m' : Nat), zInv G' x y o σ' m' → m0 ≤ m' → zV p l e room_1 s m #[Value.ref b] below meth c D (lA s) (cells + (8 + (zK m' - zK m0))) (slots + (48 + 4 * (zK m' - zK m0))) Q G' 1886 (lL b x y o (nI j)) []) : zV p l e room_1 s m #[Value.ref b] below meth c D (lA s) cells slots Q G 1217 (lL b x y o (nI j)) [] := by
  obtain ⟨C, hX, hbl, h8⟩ := K
  have hbA : ¬ lA s b := Nat.not_le.mpr hbl
  obtain ⟨hW, ⟨tb, ev, A, hC⟩, ⟨ma, th, hM⟩, w, ho⟩ := hI
  refine zz_aload_n (pc := 1217) C dL_law_1217 rfl ?_
  refine zz_callV (pc := 1218) C (c_clProcs l D hC) gL_law_X2_processes rfl 0 (by decide +kernel) ⟨Nat.le_of_ble_eq_true rfl, Nat.le_of_ble_eq_true rfl⟩ hC.x (ci := 2) rfl rfl rfl dL_law_1218 rfl (Nat.le_of_ble_eq_true rfl) rfl ⟨zRmU (a := 0) (T := 0) hr1 (Nat.zero_le _), zRmV (a := 0) (T := 0) hr2 (Nat.zero_le _)⟩ ?_
  rintro v G9 ⟨rfl, rfl⟩
  obtain ⟨r, hR, hag, hrth, hring⟩ := hM
  refine zz_aload_n (pc := 1221) C dL_law_1221 rfl ?_
  refine zz_callV (pc := 1222) C (c_X3_processes l D hR hag hring hW.z) gL_law_X3_processes rfl 0 (by decide +kernel) ⟨Nat.le_of_ble_eq_true rfl, Nat.le_of_ble_eq_true rfl⟩ hR.2.1 (ci := 3) rfl rfl rfl dL_law_1222 rfl (Nat.le_of_ble_eq_true rfl) rfl ⟨zRmU (a := 0) (T := 0) hr1 (Nat.zero_le _), zRmV (a := 0) (T := 0) hr2 (Nat.zero_le _)⟩ ?_
  rintro v G10 ⟨rfl, hM10⟩
  refine zz_icmp_eq (pc := 1225) C (tgt := 1886) dL_law_1225 (by decide) (fun _ => ?_) (fun h => absurd rfl h)
  exact zV.widen (zLe2 rfl rfl) (zLe2 rfl rfl) (kk G10 σ m0 (zInv_of hW (hC.mv (fun a e h => h)) ho hM10) (Nat.le_refl _))
set_option maxHeartbeats 4000000 in
set_option maxRecDepth 100000 in
theorem lw_c17 {p : Program} {l : Launch} {e : Env} {s : State} {m : MethodId} {below : List Frame} {meth : Method} {c : Code} {D : va_G} {b Ln : Nat} {xs : Nat → Int32} {Q : State → Prop} (hl : l.stackTraces = false) (K : zLw p s m meth c D b Ln xs) {G : zG} {x y o j m0 cells slots : Nat} {σ : zS} (hI : zInv G x y o σ m0) (h1 : vp_in (nI j + 1) Ln) (h2 : vp_in (nI j + 2) Ln) (h3 : vp_in (nI j + 3) Ln) (hr1 : cells + (8 + (16384 - zK m0)) ≤ 601024) (hr2 : slots + (48 + 4 * (16384 - zK m0)) ≤ 7293033)
    (kk : ∀ (G' : zG) (σ' : zS) (m' : Nat), zInv G' x y o σ' m' → m0 ≤ m' → zV p l e room_1 s m #[Value.ref b] below meth c D (lA s) (cells + (8 + (zK m' - zK m0))) (slots + (48 + 4 * (zK m' - zK m0))) Q G' 1886 (lL b x y o (nI j)) []) : zV p l e room_1 s m #[Value.ref b] below meth c D (lA s) cells slots Q G 1230 (lL b x y o (nI j)) [] := by
  obtain ⟨C, hX, hbl, h8⟩ := K
  have hbA : ¬ lA s b := Nat.not_le.mpr hbl
  obtain ⟨hW, ⟨tb, ev, A, hC⟩, ⟨ma, th, hM⟩, w, ho⟩ := hI
  obtain ⟨a1, e1⟩ : ∃ z, xs (nI j + 1).toNatClampNeg = z := ⟨_, rfl⟩
  refine zz_aload_n (pc := 1230) C dL_law_1230 rfl ?_
  refine zz_aload_n (pc := 1231) C dL_law_1231 rfl ?_
  refine zz_iload (pc := 1232) C dL_law_1232 rfl ?_
  refine zz_iconst (pc := 1234) C (v := 1) (by decide) dL_law_1234 ?_
  refine zz_iadd (pc := 1235) C dL_law_1235 ?_
  refine zz_sld (pc := 1236) C hX hbl hbA h1 e1 dL_law_1236 ?_
  refine zz_aload_n (pc := 1237) C dL_law_1237 rfl ?_
  refine zzx_callSW (pc := 1238) C h8 (c_L_exists l hl D (G := G) (x9 := a1) hC  ho) gL_law_L_exists rfl 3 (by decide +kernel) ⟨Nat.le_of_ble_eq_true rfl, Nat.le_of_ble_eq_true rfl⟩ rfl dL_law_1238 rfl (Nat.le_of_ble_eq_true rfl) rfl ⟨zRmC (T := 0) hr1 (Nat.le_add_right 1 _) (Nat.le_of_ble_eq_true rfl), zRmS (T := 0) hr2 (Nat.le_add_right 6 _) (Nat.le_of_ble_eq_true rfl)⟩ (fun E hE => hE.elim) ?_
  rintro v G9 ⟨rfl, ⟨A9, hC9⟩, ⟨w9, ho9, hw9⟩, hk2⟩
  obtain ⟨r, hR, hag, hrth, hring⟩ := hM.mv hk2
  refine zz_istore (pc := 1241) C dL_law_1241 (Nat.le_of_ble_eq_true rfl) ?_
  refine zz_aload_n (pc := 1243) C dL_law_1243 rfl ?_
  refine zz_aload_n (pc := 1244) C dL_law_1244 rfl ?_
  refine zz_iload (pc := 1245) C dL_law_1245 rfl ?_
  refine zz_iconst (pc := 1247) C (v := 1) (by decide) dL_law_1247 ?_
  refine zz_iadd (pc := 1248) C dL_law_1248 ?_
  refine zz_sld (pc := 1249) C hX hbl hbA h1 e1 dL_law_1249 ?_
  have hq1 := zRmU (a := ({ frames := 9, cells := 1, slots := 6, locals := 153 } : Room).cells) hr1 (T := 0) (Nat.le_trans (Nat.le_of_ble_eq_true (n := 1) (m := 5) rfl) (Nat.le_add_right 5 _))
  have hq2 := zRmV (a := ({ frames := 9, cells := 1, slots := 6, locals := 153 } : Room).slots) hr2 (T := 0) (Nat.le_trans (Nat.le_of_ble_eq_true (n := 6) (m := 40) rfl) (Nat.le_add_right 40 _))
  refine zz_callV (pc := 1250) C (c_X3_exists l D (σ := σ) (x := a1) hR hag hring ) gL_law_X3_exists rfl 1 (by decide +kernel) ⟨Nat.le_of_ble_eq_true rfl, Nat.le_of_ble_eq_true rfl⟩ hR.2.1 (ci := 3) rfl rfl rfl dL_law_1250 rfl (Nat.le_of_ble_eq_true rfl) rfl ⟨hq1, hq2⟩ ?_
  rintro v G10 ⟨rfl, hM10⟩
  obtain ⟨r10, hR10, hag10, hth10, hring10⟩ := id hM10
  refine zz_istore (pc := 1253) C dL_law_1253 (Nat.le_of_ble_eq_true rfl) ?_
  refine zz_aload_n (pc := 1255) C dL_law_1255 rfl ?_
  refine zz_callV (pc := 1256) C (c_X3_thrown l D hR10) gL_law_X3_thrown rfl 0 (by decide +kernel) ⟨Nat.le_of_ble_eq_true rfl, Nat.le_of_ble_eq_true rfl⟩ hR10.2.1 (ci := 3) rfl rfl rfl dL_law_1256 rfl (Nat.le_of_ble_eq_true rfl) rfl ⟨zRoom0 hq1, zRoom0 hq2⟩ ?_
  rintro v G11 ⟨rfl, rfl⟩
  rw [hth10]
  refine zz_iload (pc := 1259) C dL_law_1259 rfl ?_
  refine zz_icmp_eq (pc := 1261) C (tgt := 1266) dL_law_1261 (by decide) (fun _ => ?_) (fun h => absurd rfl h)
  refine zz_iload (pc := 1266) C dL_law_1266 rfl ?_
  refine zz_if_ne (pc := 1268) C (tgt := 1290) dL_law_1268 (by decide) (fun _ => ?_) (fun hcz => ?_)
  · refine zV.less (L' := lL b x y o (nI j)) ⟨rfl, rfl, rfl, rfl, rfl, trivial⟩ ?_
    refine zz_goto (pc := 1290) C (tgt := 1886) dL_law_1290 (by decide) ?_
    exact zV.widen (zLe3 (Nat.le_trans (Nat.le_of_ble_eq_true (n := 1) (m := 8) rfl) (Nat.le_add_right 8 _)) rfl rfl) (zLe3 (Nat.le_trans (Nat.le_of_ble_eq_true (n := 6) (m := 48) rfl) (Nat.le_add_right 48 _)) rfl rfl) (kk _ _ (if zE1 (a1 < 1 ∨ (40 : Int32) < a1) = 0 then m0 else m0) (zInv_of (zIfW (fun _ => hW) hW) hC9 ho9 hM10) (Nat.le_of_eq (ite_self _).symm))
  · skip
    refine zz_aload_n (pc := 1271) C dL_law_1271 rfl ?_
    refine zz_iconst (pc := 1272) C (v := 0) (by decide) dL_law_1272 ?_
    refine zz_lald (pc := 1273) C dL_law_1273 (n := 1) (hM10.fr o 3 _ ho9 (by decide)) (by unfold vp_in; decide) ?_
    refine zz_iload (pc := 1274) C dL_law_1274 rfl ?_
    refine zz_flagL (pc := 1276) C dL_law_1276 dL_law_1279 dL_law_1280 dL_law_1283 ?_
    refine zz_lcmp (pc := 1284) C dL_law_1284 ?_
    refine zz_if_eq (pc := 1285) C (tgt := 1290) dL_law_1285 (by decide) (fun _ => ?_) (fun h => absurd (zCmp_b hw9 (Classical.not_not.mp hcz)) h)
    refine zV.less (L' := lL b x y o (nI j)) ⟨rfl, rfl, rfl, rfl, rfl, trivial⟩ ?_
    refine zz_goto (pc := 1290) C (tgt := 1886) dL_law_1290 (by decide) ?_
    exact zV.widen (zLe3 (Nat.le_trans (Nat.le_of_ble_eq_true (n := 1) (m := 8) rfl) (Nat.le_add_right 8 _)) rfl rfl) (zLe3 (Nat.le_trans (Nat.le_of_ble_eq_true (n := 6) (m := 48) rfl) (Nat.le_add_right 48 _)) rfl rfl) (kk _ _ (if zE1 (a1 < 1 ∨ (40 : Int32) < a1) = 0 then m0 else m0) (zInv_of (zIfW (fun _ => hW) hW) hC9 ho9 hM10) (Nat.le_of_eq (ite_self _).symm))
