set_option maxHeartbeats 4000000 in
set_option maxRecDepth 100000 in
theorem lw_c18 {p : Program} {l : Launch} {e : Env} {s : State} {m : MethodId} {below : List Frame} {meth : Method} {c : Code} {D : va_G} {b Ln : Nat} {xs : Nat → Int32} {Q : State → Prop} (hl : l.stackTraces = false) (K : zLw p s m meth c D b Ln xs) {G : zG} {x y o j m0 cells slots : Nat} {σ : zS} (hI : zInv G x y o σ m0) (h1 : vp_in (nI j + 1) Ln) (h2 : vp_in (nI j + 2) Ln) (h3 : vp_in (nI j + 3) Ln) (hr1 : cells + (8 + (16384 - zK m0)) ≤ 601024) (hr2 : slots + (48 + 4 * (16384 - zK m0)) ≤ 7293033)
    (kk : ∀ (G' : zG) (σ' : zS) (m' : Nat), zInv G' x y o σ' m' → m0 ≤ m' → zV p l e room_1 s m #[Value.ref b] below meth c D (lA s) (cells + (8 + (zK m' - zK m0))) (slots + (48 + 4 * (zK m' - zK m0))) Q G' 1886 (lL b x y o (nI j)) []) : zV p l e room_1 s m #[Value.ref b] below meth c D (lA s) cells slots Q G 1293 (lL b x y o (nI j)) [] := by
  obtain ⟨C, hX, hbl, h8⟩ := K
  have hbA : ¬ lA s b := Nat.not_le.mpr hbl
  obtain ⟨hW, ⟨tb, ev, A, hC⟩, ⟨ma, th, hM⟩, w, ho⟩ := hI
  obtain ⟨a1, e1⟩ : ∃ z, xs (nI j + 1).toNatClampNeg = z := ⟨_, rfl⟩
  refine zz_aload_n (pc := 1293) C dL_law_1293 rfl ?_
  refine zz_aload_n (pc := 1294) C dL_law_1294 rfl ?_
  refine zz_iload (pc := 1295) C dL_law_1295 rfl ?_
  refine zz_iconst (pc := 1297) C (v := 1) (by decide) dL_law_1297 ?_
  refine zz_iadd (pc := 1298) C dL_law_1298 ?_
  refine zz_sld (pc := 1299) C hX hbl hbA h1 e1 dL_law_1299 ?_
  refine zz_aload_n (pc := 1300) C dL_law_1300 rfl ?_
  refine zzx_callSW (pc := 1301) C h8 (c_L_state l hl D (G := G) (x9 := a1) hC  ho) gL_law_L_state rfl 3 (by decide +kernel) ⟨Nat.le_of_ble_eq_true rfl, Nat.le_of_ble_eq_true rfl⟩ rfl dL_law_1301 rfl (Nat.le_of_ble_eq_true rfl) rfl ⟨zRmC (T := 0) hr1 (Nat.le_add_right 1 _) (Nat.le_of_ble_eq_true rfl), zRmS (T := 0) hr2 (Nat.le_add_right 6 _) (Nat.le_of_ble_eq_true rfl)⟩ (fun E hE => hE.elim) ?_
  rintro v G9 ⟨rfl, ⟨A9, hC9⟩, ⟨w9, ho9, hw9⟩, hk2⟩
  obtain ⟨r, hR, hag, hrth, hring⟩ := hM.mv hk2
  refine zz_istore (pc := 1304) C dL_law_1304 (Nat.le_of_ble_eq_true rfl) ?_
  refine zz_aload_n (pc := 1306) C dL_law_1306 rfl ?_
  refine zz_aload_n (pc := 1307) C dL_law_1307 rfl ?_
  refine zz_iload (pc := 1308) C dL_law_1308 rfl ?_
  refine zz_iconst (pc := 1310) C (v := 1) (by decide) dL_law_1310 ?_
  refine zz_iadd (pc := 1311) C dL_law_1311 ?_
  refine zz_sld (pc := 1312) C hX hbl hbA h1 e1 dL_law_1312 ?_
  have hq1 := zRmU (a := ({ frames := 8, cells := 1, slots := 6, locals := 133 } : Room).cells) hr1 (T := 0) (Nat.le_trans (Nat.le_of_ble_eq_true (n := 1) (m := 5) rfl) (Nat.le_add_right 5 _))
  have hq2 := zRmV (a := ({ frames := 8, cells := 1, slots := 6, locals := 133 } : Room).slots) hr2 (T := 0) (Nat.le_trans (Nat.le_of_ble_eq_true (n := 6) (m := 40) rfl) (Nat.le_add_right 40 _))
  refine zz_callV (pc := 1313) C (c_X3_state l D (σ := σ) (x := a1) hR hag hring ) gL_law_X3_state rfl 1 (by decide +kernel) ⟨Nat.le_of_ble_eq_true rfl, Nat.le_of_ble_eq_true rfl⟩ hR.2.1 (ci := 3) rfl rfl rfl dL_law_1313 rfl (Nat.le_of_ble_eq_true rfl) rfl ⟨hq1, hq2⟩ ?_
  rintro v G10 ⟨rfl, hM10⟩
  obtain ⟨r10, hR10, hag10, hth10, hring10⟩ := id hM10
  refine zz_istore (pc := 1316) C dL_law_1316 (Nat.le_of_ble_eq_true rfl) ?_
  refine zz_aload_n (pc := 1318) C dL_law_1318 rfl ?_
  refine zz_callV (pc := 1319) C (c_X3_thrown l D hR10) gL_law_X3_thrown rfl 0 (by decide +kernel) ⟨Nat.le_of_ble_eq_true rfl, Nat.le_of_ble_eq_true rfl⟩ hR10.2.1 (ci := 3) rfl rfl rfl dL_law_1319 rfl (Nat.le_of_ble_eq_true rfl) rfl ⟨zRoom0 hq1, zRoom0 hq2⟩ ?_
  rintro v G11 ⟨rfl, rfl⟩
  rw [hth10]
  refine zz_iload (pc := 1322) C dL_law_1322 rfl ?_
  refine zz_icmp_eq (pc := 1324) C (tgt := 1329) dL_law_1324 (by decide) (fun _ => ?_) (fun h => absurd rfl h)
  refine zz_iload (pc := 1329) C dL_law_1329 rfl ?_
  refine zz_if_ne (pc := 1331) C (tgt := 1346) dL_law_1331 (by decide) (fun _ => ?_) (fun hcz => ?_)
  · refine zV.less (L' := lL b x y o (nI j)) ⟨rfl, rfl, rfl, rfl, rfl, trivial⟩ ?_
    refine zz_goto (pc := 1346) C (tgt := 1886) dL_law_1346 (by decide) ?_
    exact zV.widen (zLe3 (Nat.le_trans (Nat.le_of_ble_eq_true (n := 1) (m := 8) rfl) (Nat.le_add_right 8 _)) rfl rfl) (zLe3 (Nat.le_trans (Nat.le_of_ble_eq_true (n := 6) (m := 48) rfl) (Nat.le_add_right 48 _)) rfl rfl) (kk _ _ (if zE1 (¬ zHere σ a1) = 0 then m0 else m0) (zInv_of (zIfW (fun _ => hW) hW) hC9 ho9 hM10) (Nat.le_of_eq (ite_self _).symm))
  · skip
    refine zz_aload_n (pc := 1334) C dL_law_1334 rfl ?_
    refine zz_iconst (pc := 1335) C (v := 0) (by decide) dL_law_1335 ?_
    refine zz_lald (pc := 1336) C dL_law_1336 (n := 1) (hM10.fr o 3 _ ho9 (by decide)) (by unfold vp_in; decide) ?_
    refine zz_iload (pc := 1337) C dL_law_1337 rfl ?_
    refine zz_i2l (pc := 1339) C dL_law_1339 ?_
    refine zz_lcmp (pc := 1340) C dL_law_1340 ?_
    refine zz_if_eq (pc := 1341) C (tgt := 1346) dL_law_1341 (by decide) (fun _ => ?_) (fun h => absurd (zCmp_i hw9 (Classical.not_not.mp hcz)) h)
    refine zV.less (L' := lL b x y o (nI j)) ⟨rfl, rfl, rfl, rfl, rfl, trivial⟩ ?_
    refine zz_goto (pc := 1346) C (tgt := 1886) dL_law_1346 (by decide) ?_
    exact zV.widen (zLe3 (Nat.le_trans (Nat.le_of_ble_eq_true (n := 1) (m := 8) rfl) (Nat.le_add_right 8 _)) rfl rfl) (zLe3 (Nat.le_trans (Nat.le_of_ble_eq_true (n := 6) (m := 48) rfl) (Nat.le_add_right 48 _)) rfl rfl) (kk _ _ (if zE1 (¬ zHere σ a1) = 0 then m0 else m0) (zInv_of (zIfW (fun _ => hW) hW) hC9 ho9 hM10) (Nat.le_of_eq (ite_self _).symm))
set_option maxHeartbeats 4000000 in
set_option maxRecDepth 100000 in
theorem lw_c19 {p : Program} {l : Launch} {e : Env} {s : State} {m : MethodId} {below : List Frame} {meth : Method} {c : Code} {D : va_G} {b Ln : Nat} {xs : Nat → Int32} {Q : State → Prop} (hl : l.stackTraces = false) (K : zLw p s m meth c D b Ln xs) {G : zG} {x y o j m0 cells slots : Nat} {σ : zS} (hI : zInv G x y o σ m0) (h1 : vp_in (nI j + 1) Ln) (h2 : vp_in (nI j + 2) Ln) (h3 : vp_in (nI j + 3) Ln) (hr1 : cells + (8 + (16384 - zK m0)) ≤ 601024) (hr2 : slots + (48 + 4 * (16384 - zK m0)) ≤ 7293033)
    (kk : ∀ (G' : zG) (σ' : zS) (m' : Nat), zInv G' x y o σ' m' → m0 ≤ m' → zV p l e room_1 s m #[Value.ref b] below meth c D (lA s) (cells + (8 + (zK m' - zK m0))) (slots + (48 + 4 * (zK m' - zK m0))) Q G' 1886 (lL b x y o (nI j)) []) : zV p l e room_1 s m #[Value.ref b] below meth c D (lA s) cells slots Q G 1349 (lL b x y o (nI j)) [] := by
  obtain ⟨C, hX, hbl, h8⟩ := K
  have hbA : ¬ lA s b := Nat.not_le.mpr hbl
  obtain ⟨hW, ⟨tb, ev, A, hC⟩, ⟨ma, th, hM⟩, w, ho⟩ := hI
  obtain ⟨a1, e1⟩ : ∃ z, xs (nI j + 1).toNatClampNeg = z := ⟨_, rfl⟩
  refine zz_aload_n (pc := 1349) C dL_law_1349 rfl ?_
  refine zz_aload_n (pc := 1350) C dL_law_1350 rfl ?_
  refine zz_iload (pc := 1351) C dL_law_1351 rfl ?_
  refine zz_iconst (pc := 1353) C (v := 1) (by decide) dL_law_1353 ?_
  refine zz_iadd (pc := 1354) C dL_law_1354 ?_
  refine zz_sld (pc := 1355) C hX hbl hbA h1 e1 dL_law_1355 ?_
  refine zz_aload_n (pc := 1356) C dL_law_1356 rfl ?_
  refine zzx_callSW (pc := 1357) C h8 (c_L_parent l hl D (G := G) (x9 := a1) hC hW ho) gL_law_L_parent rfl 3 (by decide +kernel) ⟨Nat.le_of_ble_eq_true rfl, Nat.le_of_ble_eq_true rfl⟩ rfl dL_law_1357 rfl (Nat.le_of_ble_eq_true rfl) rfl ⟨zRmC (T := 0) hr1 (Nat.le_add_right 1 _) (Nat.le_of_ble_eq_true rfl), zRmS (T := 0) hr2 (Nat.le_add_right 6 _) (Nat.le_of_ble_eq_true rfl)⟩ (fun E hE => hE.elim) ?_
  rintro v G9 ⟨rfl, ⟨A9, hC9⟩, ⟨w9, ho9, hw9⟩, hk2⟩
  obtain ⟨r, hR, hag, hrth, hring⟩ := hM.mv hk2
  refine zz_istore (pc := 1360) C dL_law_1360 (Nat.le_of_ble_eq_true rfl) ?_
  refine zz_aload_n (pc := 1362) C dL_law_1362 rfl ?_
  refine zz_aload_n (pc := 1363) C dL_law_1363 rfl ?_
  refine zz_iload (pc := 1364) C dL_law_1364 rfl ?_
  refine zz_iconst (pc := 1366) C (v := 1) (by decide) dL_law_1366 ?_
  refine zz_iadd (pc := 1367) C dL_law_1367 ?_
  refine zz_sld (pc := 1368) C hX hbl hbA h1 e1 dL_law_1368 ?_
  have hq1 := zRmU (a := ({ frames := 8, cells := 1, slots := 6, locals := 134 } : Room).cells) hr1 (T := 0) (Nat.le_trans (Nat.le_of_ble_eq_true (n := 1) (m := 5) rfl) (Nat.le_add_right 5 _))
  have hq2 := zRmV (a := ({ frames := 8, cells := 1, slots := 6, locals := 134 } : Room).slots) hr2 (T := 0) (Nat.le_trans (Nat.le_of_ble_eq_true (n := 6) (m := 40) rfl) (Nat.le_add_right 40 _))
  refine zz_callV (pc := 1369) C (c_X3_parent l D (σ := σ) (x := a1) hR hag hring ) gL_law_X3_parent rfl 1 (by decide +kernel) ⟨Nat.le_of_ble_eq_true rfl, Nat.le_of_ble_eq_true rfl⟩ hR.2.1 (ci := 3) rfl rfl rfl dL_law_1369 rfl (Nat.le_of_ble_eq_true rfl) rfl ⟨hq1, hq2⟩ ?_
  rintro v G10 ⟨rfl, hM10⟩
  obtain ⟨r10, hR10, hag10, hth10, hring10⟩ := id hM10
  refine zz_istore (pc := 1372) C dL_law_1372 (Nat.le_of_ble_eq_true rfl) ?_
  refine zz_aload_n (pc := 1374) C dL_law_1374 rfl ?_
  refine zz_callV (pc := 1375) C (c_X3_thrown l D hR10) gL_law_X3_thrown rfl 0 (by decide +kernel) ⟨Nat.le_of_ble_eq_true rfl, Nat.le_of_ble_eq_true rfl⟩ hR10.2.1 (ci := 3) rfl rfl rfl dL_law_1375 rfl (Nat.le_of_ble_eq_true rfl) rfl ⟨zRoom0 hq1, zRoom0 hq2⟩ ?_
  rintro v G11 ⟨rfl, rfl⟩
  rw [hth10]
  refine zz_iload (pc := 1378) C dL_law_1378 rfl ?_
  refine zz_icmp_eq (pc := 1380) C (tgt := 1385) dL_law_1380 (by decide) (fun _ => ?_) (fun h => absurd rfl h)
  refine zz_iload (pc := 1385) C dL_law_1385 rfl ?_
  refine zz_if_ne (pc := 1387) C (tgt := 1402) dL_law_1387 (by decide) (fun _ => ?_) (fun hcz => ?_)
  · refine zV.less (L' := lL b x y o (nI j)) ⟨rfl, rfl, rfl, rfl, rfl, trivial⟩ ?_
    refine zz_goto (pc := 1402) C (tgt := 1886) dL_law_1402 (by decide) ?_
    exact zV.widen (zLe3 (Nat.le_trans (Nat.le_of_ble_eq_true (n := 1) (m := 8) rfl) (Nat.le_add_right 8 _)) rfl rfl) (zLe3 (Nat.le_trans (Nat.le_of_ble_eq_true (n := 6) (m := 48) rfl) (Nat.le_add_right 48 _)) rfl rfl) (kk _ _ (if zE1 (¬ zHere σ a1) = 0 then m0 else m0) (zInv_of (zIfW (fun _ => hW) hW) hC9 ho9 hM10) (Nat.le_of_eq (ite_self _).symm))
  · skip
    refine zz_aload_n (pc := 1390) C dL_law_1390 rfl ?_
    refine zz_iconst (pc := 1391) C (v := 0) (by decide) dL_law_1391 ?_
    refine zz_lald (pc := 1392) C dL_law_1392 (n := 1) (hM10.fr o 3 _ ho9 (by decide)) (by unfold vp_in; decide) ?_
    refine zz_iload (pc := 1393) C dL_law_1393 rfl ?_
    refine zz_i2l (pc := 1395) C dL_law_1395 ?_
    refine zz_lcmp (pc := 1396) C dL_law_1396 ?_
    refine zz_if_eq (pc := 1397) C (tgt := 1402) dL_law_1397 (by decide) (fun _ => ?_) (fun h => absurd (zCmp_i hw9 (Classical.not_not.mp hcz)) h)
    refine zV.less (L' := lL b x y o (nI j)) ⟨rfl, rfl, rfl, rfl, rfl, trivial⟩ ?_
    refine zz_goto (pc := 1402) C (tgt := 1886) dL_law_1402 (by decide) ?_
    exact zV.widen (zLe3 (Nat.le_trans (Nat.le_of_ble_eq_true (n := 1) (m := 8) rfl) (Nat.le_add_right 8 _)) rfl rfl) (zLe3 (Nat.le_trans (Nat.le_of_ble_eq_true (n := 6) (m := 48) rfl) (Nat.le_add_right 48 _)) rfl rfl) (kk _ _ (if zE1 (¬ zHere σ a1) = 0 then m0 else m0) (zInv_of (zIfW (fun _ => hW) hW) hC9 ho9 hM10) (Nat.le_of_eq (ite_self _).symm))
set_option maxHeartbeats 4000000 in
set_option maxRecDepth 100000 in
theorem lw_c20 {p : Program} {l : Launch} {e : Env} {s : State} {m : MethodId} {below : List Frame} {meth : Method} {c : Code} {D : va_G} {b Ln : Nat} {xs : Nat → Int32} {Q : State → Prop} (hl : l.stackTraces = false) (K : zLw p s m meth c D b Ln xs) {G : zG} {x y o j m0 cells slots : Nat} {σ : zS} (hI : zInv G x y o σ m0) (h1 : vp_in (nI j + 1) Ln) (h2 : vp_in (nI j + 2) Ln) (h3 : vp_in (nI j + 3) Ln) (hr1 : cells + (8 + (16384 - zK m0)) ≤ 601024) (hr2 : slots + (48 + 4 * (16384 - zK m0)) ≤ 7293033)
    (kk : ∀ (G' : zG) (σ' : zS) (m' : Nat), zInv G' x y o σ' m' → m0 ≤ m' → zV p l e room_1 s m #[Value.ref b] below meth c D (lA s) (cells + (8 + (zK m' - zK m0))) (slots + (48 + 4 * (zK m' - zK m0))) Q G' 1886 (lL b x y o (nI j)) []) : zV p l e room_1 s m #[Value.ref b] below meth c D (lA s) cells slots Q G 1405 (lL b x y o (nI j)) [] := by
  obtain ⟨C, hX, hbl, h8⟩ := K
  have hbA : ¬ lA s b := Nat.not_le.mpr hbl
  obtain ⟨hW, ⟨tb, ev, A, hC⟩, ⟨ma, th, hM⟩, w, ho⟩ := hI
  obtain ⟨a1, e1⟩ : ∃ z, xs (nI j + 1).toNatClampNeg = z := ⟨_, rfl⟩
  refine zz_aload_n (pc := 1405) C dL_law_1405 rfl ?_
  refine zz_aload_n (pc := 1406) C dL_law_1406 rfl ?_
  refine zz_iload (pc := 1407) C dL_law_1407 rfl ?_
  refine zz_iconst (pc := 1409) C (v := 1) (by decide) dL_law_1409 ?_
  refine zz_iadd (pc := 1410) C dL_law_1410 ?_
  refine zz_sld (pc := 1411) C hX hbl hbA h1 e1 dL_law_1411 ?_
  refine zz_aload_n (pc := 1412) C dL_law_1412 rfl ?_
  refine zzx_callSW (pc := 1413) C h8 (c_L_group l hl D (G := G) (x9 := a1) hC  ho) gL_law_L_group rfl 3 (by decide +kernel) ⟨Nat.le_of_ble_eq_true rfl, Nat.le_of_ble_eq_true rfl⟩ rfl dL_law_1413 rfl (Nat.le_of_ble_eq_true rfl) rfl ⟨zRmC (T := 0) hr1 (Nat.le_add_right 1 _) (Nat.le_of_ble_eq_true rfl), zRmS (T := 0) hr2 (Nat.le_add_right 6 _) (Nat.le_of_ble_eq_true rfl)⟩ (fun E hE => hE.elim) ?_
  rintro v G9 ⟨rfl, ⟨A9, hC9⟩, ⟨w9, ho9, hw9⟩, hk2⟩
  obtain ⟨r, hR, hag, hrth, hring⟩ := hM.mv hk2
  refine zz_istore (pc := 1416) C dL_law_1416 (Nat.le_of_ble_eq_true rfl) ?_
  refine zz_aload_n (pc := 1418) C dL_law_1418 rfl ?_
  refine zz_aload_n (pc := 1419) C dL_law_1419 rfl ?_
  refine zz_iload (pc := 1420) C dL_law_1420 rfl ?_
  refine zz_iconst (pc := 1422) C (v := 1) (by decide) dL_law_1422 ?_
  refine zz_iadd (pc := 1423) C dL_law_1423 ?_
  refine zz_sld (pc := 1424) C hX hbl hbA h1 e1 dL_law_1424 ?_
  have hq1 := zRmU (a := ({ frames := 8, cells := 1, slots := 6, locals := 133 } : Room).cells) hr1 (T := 0) (Nat.le_trans (Nat.le_of_ble_eq_true (n := 1) (m := 5) rfl) (Nat.le_add_right 5 _))
  have hq2 := zRmV (a := ({ frames := 8, cells := 1, slots := 6, locals := 133 } : Room).slots) hr2 (T := 0) (Nat.le_trans (Nat.le_of_ble_eq_true (n := 6) (m := 40) rfl) (Nat.le_add_right 40 _))
  refine zz_callV (pc := 1425) C (c_X3_group l D (σ := σ) (x := a1) hR hag hring ) gL_law_X3_group rfl 1 (by decide +kernel) ⟨Nat.le_of_ble_eq_true rfl, Nat.le_of_ble_eq_true rfl⟩ hR.2.1 (ci := 3) rfl rfl rfl dL_law_1425 rfl (Nat.le_of_ble_eq_true rfl) rfl ⟨hq1, hq2⟩ ?_
  rintro v G10 ⟨rfl, hM10⟩
  obtain ⟨r10, hR10, hag10, hth10, hring10⟩ := id hM10
  refine zz_istore (pc := 1428) C dL_law_1428 (Nat.le_of_ble_eq_true rfl) ?_
  refine zz_aload_n (pc := 1430) C dL_law_1430 rfl ?_
  refine zz_callV (pc := 1431) C (c_X3_thrown l D hR10) gL_law_X3_thrown rfl 0 (by decide +kernel) ⟨Nat.le_of_ble_eq_true rfl, Nat.le_of_ble_eq_true rfl⟩ hR10.2.1 (ci := 3) rfl rfl rfl dL_law_1431 rfl (Nat.le_of_ble_eq_true rfl) rfl ⟨zRoom0 hq1, zRoom0 hq2⟩ ?_
  rintro v G11 ⟨rfl, rfl⟩
  rw [hth10]
  refine zz_iload (pc := 1434) C dL_law_1434 rfl ?_
  refine zz_icmp_eq (pc := 1436) C (tgt := 1441) dL_law_1436 (by decide) (fun _ => ?_) (fun h => absurd rfl h)
  refine zz_iload (pc := 1441) C dL_law_1441 rfl ?_
  refine zz_if_ne (pc := 1443) C (tgt := 1458) dL_law_1443 (by decide) (fun _ => ?_) (fun hcz => ?_)
  · refine zV.less (L' := lL b x y o (nI j)) ⟨rfl, rfl, rfl, rfl, rfl, trivial⟩ ?_
    refine zz_goto (pc := 1458) C (tgt := 1886) dL_law_1458 (by decide) ?_
    exact zV.widen (zLe3 (Nat.le_trans (Nat.le_of_ble_eq_true (n := 1) (m := 8) rfl) (Nat.le_add_right 8 _)) rfl rfl) (zLe3 (Nat.le_trans (Nat.le_of_ble_eq_true (n := 6) (m := 48) rfl) (Nat.le_add_right 48 _)) rfl rfl) (kk _ _ (if zE1 (¬ zHere σ a1) = 0 then m0 else m0) (zInv_of (zIfW (fun _ => hW) hW) hC9 ho9 hM10) (Nat.le_of_eq (ite_self _).symm))
  · skip
    refine zz_aload_n (pc := 1446) C dL_law_1446 rfl ?_
    refine zz_iconst (pc := 1447) C (v := 0) (by decide) dL_law_1447 ?_
    refine zz_lald (pc := 1448) C dL_law_1448 (n := 1) (hM10.fr o 3 _ ho9 (by decide)) (by unfold vp_in; decide) ?_
    refine zz_iload (pc := 1449) C dL_law_1449 rfl ?_
    refine zz_i2l (pc := 1451) C dL_law_1451 ?_
    refine zz_lcmp (pc := 1452) C dL_law_1452 ?_
    refine zz_if_eq (pc := 1453) C (tgt := 1458) dL_law_1453 (by decide) (fun _ => ?_) (fun h => absurd (zCmp_i hw9 (Classical.not_not.mp hcz)) h)
    refine zV.less (L' := lL b x y o (nI j)) ⟨rfl, rfl, rfl, rfl, rfl, trivial⟩ ?_
    refine zz_goto (pc := 1458) C (tgt := 1886) dL_law_1458 (by decide) ?_
    exact zV.widen (zLe3 (Nat.le_trans (Nat.le_of_ble_eq_true (n := 1) (m := 8) rfl) (Nat.le_add_right 8 _)) rfl rfl) (zLe3 (Nat.le_trans (Nat.le_of_ble_eq_true (n := 6) (m := 48) rfl) (Nat.le_add_right 48 _)) rfl rfl) (kk _ _ (if zE1 (¬ zHere σ a1) = 0 then m0 else m0) (zInv_of (zIfW (fun _ => hW) hW) hC9 ho9 hM10) (Nat.le_of_eq (ite_self _).symm))
set_option maxHeartbeats 4000000 in
set_option maxRecDepth 100000 in
theorem lw_c21 {p : Program} {l : Launch} {e : Env} {s : State} {m : MethodId} {below : List Frame} {meth : Method} {c : Code} {D : va_G} {b Ln : Nat} {xs : Nat → Int32} {Q : State → Prop} (hl : l.stackTraces = false) (K : zLw p s m meth c D b Ln xs) {G : zG} {x y o j m0 cells slots : Nat} {σ : zS} (hI : zInv G x y o σ m0) (h1 : vp_in (nI j + 1) Ln) (h2 : vp_in (nI j + 2) Ln) (h3 : vp_in (nI j + 3) Ln) (hr1 : cells + (8 + (16384 - zK m0)) ≤ 601024) (hr2 : slots + (48 + 4 * (16384 - zK m0)) ≤ 7293033)
    (kk : ∀ (G' : zG) (σ' : zS) (m' : Nat), zInv G' x y o σ' m' → m0 ≤ m' → zV p l e room_1 s m #[Value.ref b] below meth c D (lA s) (cells + (8 + (zK m' - zK m0))) (slots + (48 + 4 * (zK m' - zK m0))) Q G' 1886 (lL b x y o (nI j)) []) : zV p l e room_1 s m #[Value.ref b] below meth c D (lA s) cells slots Q G 1461 (lL b x y o (nI j)) [] := by
  obtain ⟨C, hX, hbl, h8⟩ := K
  have hbA : ¬ lA s b := Nat.not_le.mpr hbl
  obtain ⟨hW, ⟨tb, ev, A, hC⟩, ⟨ma, th, hM⟩, w, ho⟩ := hI
  obtain ⟨a1, e1⟩ : ∃ z, xs (nI j + 1).toNatClampNeg = z := ⟨_, rfl⟩
  refine zz_aload_n (pc := 1461) C dL_law_1461 rfl ?_
  refine zz_aload_n (pc := 1462) C dL_law_1462 rfl ?_
  refine zz_iload (pc := 1463) C dL_law_1463 rfl ?_
  refine zz_iconst (pc := 1465) C (v := 1) (by decide) dL_law_1465 ?_
  refine zz_iadd (pc := 1466) C dL_law_1466 ?_
  refine zz_sld (pc := 1467) C hX hbl hbA h1 e1 dL_law_1467 ?_
  refine zz_aload_n (pc := 1468) C dL_law_1468 rfl ?_
  refine zzx_callSW (pc := 1469) C h8 (c_L_session l hl D (G := G) (x9 := a1) hC  ho) gL_law_L_session rfl 3 (by decide +kernel) ⟨Nat.le_of_ble_eq_true rfl, Nat.le_of_ble_eq_true rfl⟩ rfl dL_law_1469 rfl (Nat.le_of_ble_eq_true rfl) rfl ⟨zRmC (T := 0) hr1 (Nat.le_add_right 1 _) (Nat.le_of_ble_eq_true rfl), zRmS (T := 0) hr2 (Nat.le_add_right 6 _) (Nat.le_of_ble_eq_true rfl)⟩ (fun E hE => hE.elim) ?_
  rintro v G9 ⟨rfl, ⟨A9, hC9⟩, ⟨w9, ho9, hw9⟩, hk2⟩
  obtain ⟨r, hR, hag, hrth, hring⟩ := hM.mv hk2
  refine zz_istore (pc := 1472) C dL_law_1472 (Nat.le_of_ble_eq_true rfl) ?_
  refine zz_aload_n (pc := 1474) C dL_law_1474 rfl ?_
  refine zz_aload_n (pc := 1475) C dL_law_1475 rfl ?_
  refine zz_iload (pc := 1476) C dL_law_1476 rfl ?_
  refine zz_iconst (pc := 1478) C (v := 1) (by decide) dL_law_1478 ?_
  refine zz_iadd (pc := 1479) C dL_law_1479 ?_
  refine zz_sld (pc := 1480) C hX hbl hbA h1 e1 dL_law_1480 ?_
  have hq1 := zRmU (a := ({ frames := 8, cells := 1, slots := 6, locals := 133 } : Room).cells) hr1 (T := 0) (Nat.le_trans (Nat.le_of_ble_eq_true (n := 1) (m := 5) rfl) (Nat.le_add_right 5 _))
  have hq2 := zRmV (a := ({ frames := 8, cells := 1, slots := 6, locals := 133 } : Room).slots) hr2 (T := 0) (Nat.le_trans (Nat.le_of_ble_eq_true (n := 6) (m := 40) rfl) (Nat.le_add_right 40 _))
  refine zz_callV (pc := 1481) C (c_X3_session l D (σ := σ) (x := a1) hR hag hring ) gL_law_X3_session rfl 1 (by decide +kernel) ⟨Nat.le_of_ble_eq_true rfl, Nat.le_of_ble_eq_true rfl⟩ hR.2.1 (ci := 3) rfl rfl rfl dL_law_1481 rfl (Nat.le_of_ble_eq_true rfl) rfl ⟨hq1, hq2⟩ ?_
  rintro v G10 ⟨rfl, hM10⟩
  obtain ⟨r10, hR10, hag10, hth10, hring10⟩ := id hM10
  refine zz_istore (pc := 1484) C dL_law_1484 (Nat.le_of_ble_eq_true rfl) ?_
  refine zz_aload_n (pc := 1486) C dL_law_1486 rfl ?_
  refine zz_callV (pc := 1487) C (c_X3_thrown l D hR10) gL_law_X3_thrown rfl 0 (by decide +kernel) ⟨Nat.le_of_ble_eq_true rfl, Nat.le_of_ble_eq_true rfl⟩ hR10.2.1 (ci := 3) rfl rfl rfl dL_law_1487 rfl (Nat.le_of_ble_eq_true rfl) rfl ⟨zRoom0 hq1, zRoom0 hq2⟩ ?_
  rintro v G11 ⟨rfl, rfl⟩
  rw [hth10]
  refine zz_iload (pc := 1490) C dL_law_1490 rfl ?_
  refine zz_icmp_eq (pc := 1492) C (tgt := 1497) dL_law_1492 (by decide) (fun _ => ?_) (fun h => absurd rfl h)
  refine zz_iload (pc := 1497) C dL_law_1497 rfl ?_
  refine zz_if_ne (pc := 1499) C (tgt := 1514) dL_law_1499 (by decide) (fun _ => ?_) (fun hcz => ?_)
  · refine zV.less (L' := lL b x y o (nI j)) ⟨rfl, rfl, rfl, rfl, rfl, trivial⟩ ?_
    refine zz_goto (pc := 1514) C (tgt := 1886) dL_law_1514 (by decide) ?_
    exact zV.widen (zLe3 (Nat.le_trans (Nat.le_of_ble_eq_true (n := 1) (m := 8) rfl) (Nat.le_add_right 8 _)) rfl rfl) (zLe3 (Nat.le_trans (Nat.le_of_ble_eq_true (n := 6) (m := 48) rfl) (Nat.le_add_right 48 _)) rfl rfl) (kk _ _ (if zE1 (¬ zHere σ a1) = 0 then m0 else m0) (zInv_of (zIfW (fun _ => hW) hW) hC9 ho9 hM10) (Nat.le_of_eq (ite_self _).symm))
  · skip
    refine zz_aload_n (pc := 1502) C dL_law_1502 rfl ?_
    refine zz_iconst (pc := 1503) C (v := 0) (by decide) dL_law_1503 ?_
    refine zz_lald (pc := 1504) C dL_law_1504 (n := 1) (hM10.fr o 3 _ ho9 (by decide)) (by unfold vp_in; decide) ?_
    refine zz_iload (pc := 1505) C dL_law_1505 rfl ?_
    refine zz_i2l (pc := 1507) C dL_law_1507 ?_
    refine zz_lcmp (pc := 1508) C dL_law_1508 ?_
    refine zz_if_eq (pc := 1509) C (tgt := 1514) dL_law_1509 (by decide) (fun _ => ?_) (fun h => absurd (zCmp_i hw9 (Classical.not_not.mp hcz)) h)
    refine zV.less (L' := lL b x y o (nI j)) ⟨rfl, rfl, rfl, rfl, rfl, trivial⟩ ?_
    refine zz_goto (pc := 1514) C (tgt := 1886) dL_law_1514 (by decide) ?_
    exact zV.widen (zLe3 (Nat.le_trans (Nat.le_of_ble_eq_true (n := 1) (m := 8) rfl) (Nat.le_add_right 8 _)) rfl rfl) (zLe3 (Nat.le_trans (Nat.le_of_ble_eq_true (n := 6) (m := 48) rfl) (Nat.le_add_right 48 _)) rfl rfl) (kk _ _ (if zE1 (¬ zHere σ a1) = 0 then m0 else m0) (zInv_of (zIfW (fun _ => hW) hW) hC9 ho9 hM10) (Nat.le_of_eq (ite_self _).symm))
set_option maxHeartbeats 4000000 in
set_option maxRecDepth 100000 in
theorem lw_c22 {p : Program} {l : Launch} {e : Env} {s : State} {m : MethodId} {below : List Frame} {meth : Method} {c : Code} {D : va_G} {b Ln : Nat} {xs : Nat → Int32} {Q : State → Prop} (hl : l.stackTraces = false) (K : zLw p s m meth c D b Ln xs) {G : zG} {x y o j m0 cells slots : Nat} {σ : zS} (hI : zInv G x y o σ m0) (h1 : vp_in (nI j + 1) Ln) (h2 : vp_in (nI j + 2) Ln) (h3 : vp_in (nI j + 3) Ln) (hr1 : cells + (8 + (16384 - zK m0)) ≤ 601024) (hr2 : slots + (48 + 4 * (16384 - zK m0)) ≤ 7293033)
    (kk : ∀ (G' : zG) (σ' : zS) (m' : Nat), zInv G' x y o σ' m' → m0 ≤ m' → zV p l e room_1 s m #[Value.ref b] below meth c D (lA s) (cells + (8 + (zK m' - zK m0))) (slots + (48 + 4 * (zK m' - zK m0))) Q G' 1886 (lL b x y o (nI j)) []) : zV p l e room_1 s m #[Value.ref b] below meth c D (lA s) cells slots Q G 1517 (lL b x y o (nI j)) [] := by
  obtain ⟨C, hX, hbl, h8⟩ := K
  have hbA : ¬ lA s b := Nat.not_le.mpr hbl
  obtain ⟨hW, ⟨tb, ev, A, hC⟩, ⟨ma, th, hM⟩, w, ho⟩ := hI
  obtain ⟨a1, e1⟩ : ∃ z, xs (nI j + 1).toNatClampNeg = z := ⟨_, rfl⟩
  refine zz_aload_n (pc := 1517) C dL_law_1517 rfl ?_
  refine zz_aload_n (pc := 1518) C dL_law_1518 rfl ?_
  refine zz_iload (pc := 1519) C dL_law_1519 rfl ?_
  refine zz_iconst (pc := 1521) C (v := 1) (by decide) dL_law_1521 ?_
  refine zz_iadd (pc := 1522) C dL_law_1522 ?_
  refine zz_sld (pc := 1523) C hX hbl hbA h1 e1 dL_law_1523 ?_
  refine zz_aload_n (pc := 1524) C dL_law_1524 rfl ?_
  refine zzx_callSW (pc := 1525) C h8 (c_L_pending l hl D (G := G) (x9 := a1) hC  ho) gL_law_L_pending rfl 3 (by decide +kernel) ⟨Nat.le_of_ble_eq_true rfl, Nat.le_of_ble_eq_true rfl⟩ rfl dL_law_1525 rfl (Nat.le_of_ble_eq_true rfl) rfl ⟨zRmC (T := 0) hr1 (Nat.le_add_right 1 _) (Nat.le_of_ble_eq_true rfl), zRmS (T := 0) hr2 (Nat.le_add_right 6 _) (Nat.le_of_ble_eq_true rfl)⟩ (fun E hE => hE.elim) ?_
  rintro v G9 ⟨rfl, ⟨A9, hC9⟩, ⟨w9, ho9, hw9⟩, hk2⟩
  obtain ⟨r, hR, hag, hrth, hring⟩ := hM.mv hk2
  refine zz_istore (pc := 1528) C dL_law_1528 (Nat.le_of_ble_eq_true rfl) ?_
  refine zz_aload_n (pc := 1530) C dL_law_1530 rfl ?_
  refine zz_aload_n (pc := 1531) C dL_law_1531 rfl ?_
  refine zz_iload (pc := 1532) C dL_law_1532 rfl ?_
  refine zz_iconst (pc := 1534) C (v := 1) (by decide) dL_law_1534 ?_
  refine zz_iadd (pc := 1535) C dL_law_1535 ?_
  refine zz_sld (pc := 1536) C hX hbl hbA h1 e1 dL_law_1536 ?_
  have hq1 := zRmU (a := ({ frames := 8, cells := 1, slots := 6, locals := 133 } : Room).cells) hr1 (T := 0) (Nat.le_trans (Nat.le_of_ble_eq_true (n := 1) (m := 5) rfl) (Nat.le_add_right 5 _))
  have hq2 := zRmV (a := ({ frames := 8, cells := 1, slots := 6, locals := 133 } : Room).slots) hr2 (T := 0) (Nat.le_trans (Nat.le_of_ble_eq_true (n := 6) (m := 40) rfl) (Nat.le_add_right 40 _))
  refine zz_callV (pc := 1537) C (c_X3_pending l D (σ := σ) (x := a1) hR hag hring ) gL_law_X3_pending rfl 1 (by decide +kernel) ⟨Nat.le_of_ble_eq_true rfl, Nat.le_of_ble_eq_true rfl⟩ hR.2.1 (ci := 3) rfl rfl rfl dL_law_1537 rfl (Nat.le_of_ble_eq_true rfl) rfl ⟨hq1, hq2⟩ ?_
  rintro v G10 ⟨rfl, hM10⟩
  obtain ⟨r10, hR10, hag10, hth10, hring10⟩ := id hM10
  refine zz_istore (pc := 1540) C dL_law_1540 (Nat.le_of_ble_eq_true rfl) ?_
  refine zz_aload_n (pc := 1542) C dL_law_1542 rfl ?_
  refine zz_callV (pc := 1543) C (c_X3_thrown l D hR10) gL_law_X3_thrown rfl 0 (by decide +kernel) ⟨Nat.le_of_ble_eq_true rfl, Nat.le_of_ble_eq_true rfl⟩ hR10.2.1 (ci := 3) rfl rfl rfl dL_law_1543 rfl (Nat.le_of_ble_eq_true rfl) rfl ⟨zRoom0 hq1, zRoom0 hq2⟩ ?_
  rintro v G11 ⟨rfl, rfl⟩
  rw [hth10]
  refine zz_iload (pc := 1546) C dL_law_1546 rfl ?_
  refine zz_icmp_eq (pc := 1548) C (tgt := 1553) dL_law_1548 (by decide) (fun _ => ?_) (fun h => absurd rfl h)
  refine zz_iload (pc := 1553) C dL_law_1553 rfl ?_
  refine zz_if_ne (pc := 1555) C (tgt := 1570) dL_law_1555 (by decide) (fun _ => ?_) (fun hcz => ?_)
  · refine zV.less (L' := lL b x y o (nI j)) ⟨rfl, rfl, rfl, rfl, rfl, trivial⟩ ?_
    refine zz_goto (pc := 1570) C (tgt := 1886) dL_law_1570 (by decide) ?_
    exact zV.widen (zLe3 (Nat.le_trans (Nat.le_of_ble_eq_true (n := 1) (m := 8) rfl) (Nat.le_add_right 8 _)) rfl rfl) (zLe3 (Nat.le_trans (Nat.le_of_ble_eq_true (n := 6) (m := 48) rfl) (Nat.le_add_right 48 _)) rfl rfl) (kk _ _ (if zE1 (¬ zHere σ a1) = 0 then m0 else m0) (zInv_of (zIfW (fun _ => hW) hW) hC9 ho9 hM10) (Nat.le_of_eq (ite_self _).symm))
  · skip
    refine zz_aload_n (pc := 1558) C dL_law_1558 rfl ?_
    refine zz_iconst (pc := 1559) C (v := 0) (by decide) dL_law_1559 ?_
    refine zz_lald (pc := 1560) C dL_law_1560 (n := 1) (hM10.fr o 3 _ ho9 (by decide)) (by unfold vp_in; decide) ?_
    refine zz_iload (pc := 1561) C dL_law_1561 rfl ?_
    refine zz_i2l (pc := 1563) C dL_law_1563 ?_
    refine zz_lcmp (pc := 1564) C dL_law_1564 ?_
    refine zz_if_eq (pc := 1565) C (tgt := 1570) dL_law_1565 (by decide) (fun _ => ?_) (fun h => absurd (zCmp_i hw9 (Classical.not_not.mp hcz)) h)
    refine zV.less (L' := lL b x y o (nI j)) ⟨rfl, rfl, rfl, rfl, rfl, trivial⟩ ?_
    refine zz_goto (pc := 1570) C (tgt := 1886) dL_law_1570 (by decide) ?_
    exact zV.widen (zLe3 (Nat.le_trans (Nat.le_of_ble_eq_true (n := 1) (m := 8) rfl) (Nat.le_add_right 8 _)) rfl rfl) (zLe3 (Nat.le_trans (Nat.le_of_ble_eq_true (n := 6) (m := 48) rfl) (Nat.le_add_right 48 _)) rfl rfl) (kk _ _ (if zE1 (¬ zHere σ a1) = 0 then m0 else m0) (zInv_of (zIfW (fun _ => hW) hW) hC9 ho9 hM10) (Nat.le_of_eq (ite_self _).symm))
set_option maxHeartbeats 4000000 in
set_option maxRecDepth 100000 in
theorem lw_c23 {p : Program} {l : Launch} {e : Env} {s : State} {m : MethodId} {below : List Frame} {meth : Method} {c : Code} {D : va_G} {b Ln : Nat} {xs : Nat → Int32} {Q : State → Prop} (hl : l.stackTraces = false) (K : zLw p s m meth c D b Ln xs) {G : zG} {x y o j m0 cells slots : Nat} {σ : zS} (hI : zInv G x y o σ m0) (h1 : vp_in (nI j + 1) Ln) (h2 : vp_in (nI j + 2) Ln) (h3 : vp_in (nI j + 3) Ln) (hr1 : cells + (8 + (16384 - zK m0)) ≤ 601024) (hr2 : slots + (48 + 4 * (16384 - zK m0)) ≤ 7293033)
    (kk : ∀ (G' : zG) (σ' : zS) (m' : Nat), zInv G' x y o σ' m' → m0 ≤ m' → zV p l e room_1 s m #[Value.ref b] below meth c D (lA s) (cells + (8 + (zK m' - zK m0))) (slots + (48 + 4 * (zK m' - zK m0))) Q G' 1886 (lL b x y o (nI j)) []) : zV p l e room_1 s m #[Value.ref b] below meth c D (lA s) cells slots Q G 1573 (lL b x y o (nI j)) [] := by
  obtain ⟨C, hX, hbl, h8⟩ := K
  have hbA : ¬ lA s b := Nat.not_le.mpr hbl
  obtain ⟨hW, ⟨tb, ev, A, hC⟩, ⟨ma, th, hM⟩, w, ho⟩ := hI
  obtain ⟨a1, e1⟩ : ∃ z, xs (nI j + 1).toNatClampNeg = z := ⟨_, rfl⟩
  refine zz_aload_n (pc := 1573) C dL_law_1573 rfl ?_
  refine zz_aload_n (pc := 1574) C dL_law_1574 rfl ?_
  refine zz_iload (pc := 1575) C dL_law_1575 rfl ?_
  refine zz_iconst (pc := 1577) C (v := 1) (by decide) dL_law_1577 ?_
  refine zz_iadd (pc := 1578) C dL_law_1578 ?_
  refine zz_sld (pc := 1579) C hX hbl hbA h1 e1 dL_law_1579 ?_
  refine zz_aload_n (pc := 1580) C dL_law_1580 rfl ?_
  refine zzx_callSW (pc := 1581) C h8 (c_L_caught l hl D (G := G) (x9 := a1) hC  ho) gL_law_L_caught rfl 3 (by decide +kernel) ⟨Nat.le_of_ble_eq_true rfl, Nat.le_of_ble_eq_true rfl⟩ rfl dL_law_1581 rfl (Nat.le_of_ble_eq_true rfl) rfl ⟨zRmC (T := 0) hr1 (Nat.le_add_right 1 _) (Nat.le_of_ble_eq_true rfl), zRmS (T := 0) hr2 (Nat.le_add_right 6 _) (Nat.le_of_ble_eq_true rfl)⟩ (fun E hE => hE.elim) ?_
  rintro v G9 ⟨rfl, ⟨A9, hC9⟩, ⟨w9, ho9, hw9⟩, hk2⟩
  obtain ⟨r, hR, hag, hrth, hring⟩ := hM.mv hk2
  refine zz_istore (pc := 1584) C dL_law_1584 (Nat.le_of_ble_eq_true rfl) ?_
  refine zz_aload_n (pc := 1586) C dL_law_1586 rfl ?_
  refine zz_aload_n (pc := 1587) C dL_law_1587 rfl ?_
  refine zz_iload (pc := 1588) C dL_law_1588 rfl ?_
  refine zz_iconst (pc := 1590) C (v := 1) (by decide) dL_law_1590 ?_
  refine zz_iadd (pc := 1591) C dL_law_1591 ?_
  refine zz_sld (pc := 1592) C hX hbl hbA h1 e1 dL_law_1592 ?_
  have hq1 := zRmU (a := ({ frames := 8, cells := 1, slots := 6, locals := 133 } : Room).cells) hr1 (T := 0) (Nat.le_trans (Nat.le_of_ble_eq_true (n := 1) (m := 5) rfl) (Nat.le_add_right 5 _))
  have hq2 := zRmV (a := ({ frames := 8, cells := 1, slots := 6, locals := 133 } : Room).slots) hr2 (T := 0) (Nat.le_trans (Nat.le_of_ble_eq_true (n := 6) (m := 40) rfl) (Nat.le_add_right 40 _))
  refine zz_callV (pc := 1593) C (c_X3_caught l D (σ := σ) (x := a1) hR hag hring ) gL_law_X3_caught rfl 1 (by decide +kernel) ⟨Nat.le_of_ble_eq_true rfl, Nat.le_of_ble_eq_true rfl⟩ hR.2.1 (ci := 3) rfl rfl rfl dL_law_1593 rfl (Nat.le_of_ble_eq_true rfl) rfl ⟨hq1, hq2⟩ ?_
  rintro v G10 ⟨rfl, hM10⟩
  obtain ⟨r10, hR10, hag10, hth10, hring10⟩ := id hM10
  refine zz_istore (pc := 1596) C dL_law_1596 (Nat.le_of_ble_eq_true rfl) ?_
  refine zz_aload_n (pc := 1598) C dL_law_1598 rfl ?_
  refine zz_callV (pc := 1599) C (c_X3_thrown l D hR10) gL_law_X3_thrown rfl 0 (by decide +kernel) ⟨Nat.le_of_ble_eq_true rfl, Nat.le_of_ble_eq_true rfl⟩ hR10.2.1 (ci := 3) rfl rfl rfl dL_law_1599 rfl (Nat.le_of_ble_eq_true rfl) rfl ⟨zRoom0 hq1, zRoom0 hq2⟩ ?_
  rintro v G11 ⟨rfl, rfl⟩
  rw [hth10]
  refine zz_iload (pc := 1602) C dL_law_1602 rfl ?_
  refine zz_icmp_eq (pc := 1604) C (tgt := 1609) dL_law_1604 (by decide) (fun _ => ?_) (fun h => absurd rfl h)
  refine zz_iload (pc := 1609) C dL_law_1609 rfl ?_
  refine zz_if_ne (pc := 1611) C (tgt := 1626) dL_law_1611 (by decide) (fun _ => ?_) (fun hcz => ?_)
  · refine zV.less (L' := lL b x y o (nI j)) ⟨rfl, rfl, rfl, rfl, rfl, trivial⟩ ?_
    refine zz_goto (pc := 1626) C (tgt := 1886) dL_law_1626 (by decide) ?_
    exact zV.widen (zLe3 (Nat.le_trans (Nat.le_of_ble_eq_true (n := 1) (m := 8) rfl) (Nat.le_add_right 8 _)) rfl rfl) (zLe3 (Nat.le_trans (Nat.le_of_ble_eq_true (n := 6) (m := 48) rfl) (Nat.le_add_right 48 _)) rfl rfl) (kk _ _ (if zE1 (¬ zHere σ a1) = 0 then m0 else m0) (zInv_of (zIfW (fun _ => hW) hW) hC9 ho9 hM10) (Nat.le_of_eq (ite_self _).symm))
  · skip
    refine zz_aload_n (pc := 1614) C dL_law_1614 rfl ?_
    refine zz_iconst (pc := 1615) C (v := 0) (by decide) dL_law_1615 ?_
    refine zz_lald (pc := 1616) C dL_law_1616 (n := 1) (hM10.fr o 3 _ ho9 (by decide)) (by unfold vp_in; decide) ?_
    refine zz_iload (pc := 1617) C dL_law_1617 rfl ?_
    refine zz_i2l (pc := 1619) C dL_law_1619 ?_
    refine zz_lcmp (pc := 1620) C dL_law_1620 ?_
    refine zz_if_eq (pc := 1621) C (tgt := 1626) dL_law_1621 (by decide) (fun _ => ?_) (fun h => absurd (zCmp_i hw9 (Classical.not_not.mp hcz)) h)
    refine zV.less (L' := lL b x y o (nI j)) ⟨rfl, rfl, rfl, rfl, rfl, trivial⟩ ?_
    refine zz_goto (pc := 1626) C (tgt := 1886) dL_law_1626 (by decide) ?_
    exact zV.widen (zLe3 (Nat.le_trans (Nat.le_of_ble_eq_true (n := 1) (m := 8) rfl) (Nat.le_add_right 8 _)) rfl rfl) (zLe3 (Nat.le_trans (Nat.le_of_ble_eq_true (n := 6) (m := 48) rfl) (Nat.le_add_right 48 _)) rfl rfl) (kk _ _ (if zE1 (¬ zHere σ a1) = 0 then m0 else m0) (zInv_of (zIfW (fun _ => hW) hW) hC9 ho9 hM10) (Nat.le_of_eq (ite_self _).symm))
