set_option maxHeartbeats 4000000 in
set_option maxRecDepth 100000 in
theorem lw_c9 {p : Program} {l : Launch} {e : Env} {s : State} {m : MethodId} {below : List Frame} {meth : Method} {c : Code} {D : va_G} {b Ln : Nat} {xs : Nat → Int32} {Q : State → Prop} (hl : l.stackTraces = false) (K : zLw p s m meth c D b Ln xs) {G : zG} {x y o j m0 cells slots : Nat} {σ : zS} (hI : zInv G x y o σ m0) (h1 : vp_in (nI j + 1) Ln) (h2 : vp_in (nI j + 2) Ln) (h3 : vp_in (nI j + 3) Ln) (hr1 : cells + (8 + (16384 - zK m0)) ≤ 601024) (hr2 : slots + (48 + 4 * (16384 - zK m0)) ≤ 7293033)
    (kk : ∀ (G' : zG) (σ' : zS) (m' : Nat), zInv G' x y o σ' m' → m0 ≤ m' → zV p l e room_1 s m #[Value.ref b] below meth c D (lA s) (cells + (8 + (zK m' - zK m0))) (slots + (48 + 4 * (zK m' - zK m0))) Q G' 1886 (lL b x y o (nI j)) []) : zV p l e room_1 s m #[Value.ref b] below meth c D (lA s) cells slots Q G 790 (lL b x y o (nI j)) [] := by
  obtain ⟨C, hX, hbl, h8⟩ := K
  have hbA : ¬ lA s b := Nat.not_le.mpr hbl
  obtain ⟨hW, ⟨tb, ev, A, hC⟩, ⟨ma, th, hM⟩, w, ho⟩ := hI
  obtain ⟨a1, e1⟩ : ∃ z, xs (nI j + 1).toNatClampNeg = z := ⟨_, rfl⟩
  obtain ⟨a2, e2⟩ : ∃ z, xs (nI j + 2).toNatClampNeg = z := ⟨_, rfl⟩
  obtain ⟨f2, ef2⟩ : ∃ f, (if a2 = 0 then (0 : Int32) else 1) = f := ⟨_, rfl⟩
  have hf2 := zFl01 ef2
  refine zz_aload_n (pc := 790) C dL_law_790 rfl ?_
  refine zz_aload_n (pc := 791) C dL_law_791 rfl ?_
  refine zz_iload (pc := 792) C dL_law_792 rfl ?_
  refine zz_iconst (pc := 794) C (v := 1) (by decide) dL_law_794 ?_
  refine zz_iadd (pc := 795) C dL_law_795 ?_
  refine zz_sld (pc := 796) C hX hbl hbA h1 e1 dL_law_796 ?_
  refine zz_aload_n (pc := 797) C dL_law_797 rfl ?_
  refine zz_iload (pc := 798) C dL_law_798 rfl ?_
  refine zz_iconst (pc := 800) C (v := 2) (by decide) dL_law_800 ?_
  refine zz_iadd (pc := 801) C dL_law_801 ?_
  refine zz_sld (pc := 802) C hX hbl hbA h2 e2 dL_law_802 ?_
  refine zz_flag (pc := 803) C ef2 dL_law_803 dL_law_806 dL_law_807 dL_law_810 ?_
  refine zz_aload_n (pc := 811) C dL_law_811 rfl ?_
  refine zzx_callSW (pc := 812) C h8 (c_L_setReaper l hl D (G := G) (x9 := a1) (f9 := f2) hC hW hf2 ho) gL_law_L_setReaper rfl 4 (by decide +kernel) ⟨Nat.le_of_ble_eq_true rfl, Nat.le_of_ble_eq_true rfl⟩ rfl dL_law_812 rfl (Nat.le_of_ble_eq_true rfl) rfl ⟨zRmC (T := 0) hr1 (Nat.le_add_right 2 _) (Nat.le_of_ble_eq_true rfl), zRmS (T := 0) hr2 (Nat.le_add_right 12 _) (Nat.le_of_ble_eq_true rfl)⟩ (fun E hE => hE.elim) ?_
  rintro v G9 ⟨rfl, ⟨A9, hC9⟩, ⟨w9, ho9, hw9⟩, hk2⟩
  obtain ⟨r, hR, hag, hrth, hring⟩ := hM.mv hk2
  refine zz_istore (pc := 815) C dL_law_815 (Nat.le_of_ble_eq_true rfl) ?_
  refine zz_aload_n (pc := 817) C dL_law_817 rfl ?_
  refine zz_aload_n (pc := 818) C dL_law_818 rfl ?_
  refine zz_iload (pc := 819) C dL_law_819 rfl ?_
  refine zz_iconst (pc := 821) C (v := 1) (by decide) dL_law_821 ?_
  refine zz_iadd (pc := 822) C dL_law_822 ?_
  refine zz_sld (pc := 823) C hX hbl hbA h1 e1 dL_law_823 ?_
  refine zz_aload_n (pc := 824) C dL_law_824 rfl ?_
  refine zz_iload (pc := 825) C dL_law_825 rfl ?_
  refine zz_iconst (pc := 827) C (v := 2) (by decide) dL_law_827 ?_
  refine zz_iadd (pc := 828) C dL_law_828 ?_
  refine zz_sld (pc := 829) C hX hbl hbA h2 e2 dL_law_829 ?_
  refine zz_flag (pc := 830) C ef2 dL_law_830 dL_law_833 dL_law_834 dL_law_837 ?_
  have hq1 := zRmU (a := ({ frames := 8, cells := 2, slots := 12, locals := 136 } : Room).cells) hr1 (T := 0) (Nat.le_trans (Nat.le_of_ble_eq_true (n := 2) (m := 5) rfl) (Nat.le_add_right 5 _))
  have hq2 := zRmV (a := ({ frames := 8, cells := 2, slots := 12, locals := 136 } : Room).slots) hr2 (T := 0) (Nat.le_trans (Nat.le_of_ble_eq_true (n := 12) (m := 40) rfl) (Nat.le_add_right 40 _))
  refine zz_callV (pc := 838) C (c_X3_setReaper l D (σ := σ) (x := a1) (f9 := f2) hR hag hring (fun k => (hW.2.2.2.2.2.1 k).2.2.2.2.2.1) (zFlN hf2)) gL_law_X3_setReaper rfl 2 (by decide +kernel) ⟨Nat.le_of_ble_eq_true rfl, Nat.le_of_ble_eq_true rfl⟩ hR.2.1 (ci := 3) rfl rfl rfl dL_law_838 rfl (Nat.le_of_ble_eq_true rfl) rfl ⟨hq1, hq2⟩ ?_
  rintro v G10 ⟨rfl, hM10⟩
  obtain ⟨r10, hR10, hag10, hth10, hring10⟩ := id hM10
  refine zz_istore (pc := 841) C dL_law_841 (Nat.le_of_ble_eq_true rfl) ?_
  refine zz_aload_n (pc := 843) C dL_law_843 rfl ?_
  refine zz_callV (pc := 844) C (c_X3_thrown l D hR10) gL_law_X3_thrown rfl 0 (by decide +kernel) ⟨Nat.le_of_ble_eq_true rfl, Nat.le_of_ble_eq_true rfl⟩ hR10.2.1 (ci := 3) rfl rfl rfl dL_law_844 rfl (Nat.le_of_ble_eq_true rfl) rfl ⟨zRoom0 hq1, zRoom0 hq2⟩ ?_
  rintro v G11 ⟨rfl, rfl⟩
  rw [hth10]
  refine zz_iload (pc := 847) C dL_law_847 rfl ?_
  refine zz_icmp_eq (pc := 849) C (tgt := 854) dL_law_849 (by decide) (fun _ => ?_) (fun h => absurd rfl h)
  refine zz_iload (pc := 854) C dL_law_854 rfl ?_
  refine zz_if_ne (pc := 856) C (tgt := 878) dL_law_856 (by decide) (fun _ => ?_) (fun hcz => ?_)
  · refine zV.less (L' := lL b x y o (nI j)) ⟨rfl, rfl, rfl, rfl, rfl, trivial⟩ ?_
    refine zz_goto (pc := 878) C (tgt := 1886) dL_law_878 (by decide) ?_
    exact zV.widen (zLe3 (Nat.le_trans (Nat.le_of_ble_eq_true (n := 2) (m := 8) rfl) (Nat.le_add_right 8 _)) rfl rfl) (zLe3 (Nat.le_trans (Nat.le_of_ble_eq_true (n := 12) (m := 48) rfl) (Nat.le_add_right 48 _)) rfl rfl) (kk _ _ (if zE2 (¬ zHere σ a1) (zNot σ (pn a1)) = 0 then m0 else m0) (zInv_of (zIfW (fun z => zk_setReaper hW hf2 z) hW) hC9 ho9 hM10) (Nat.le_of_eq (ite_self _).symm))
  · skip
    refine zz_aload_n (pc := 859) C dL_law_859 rfl ?_
    refine zz_iconst (pc := 860) C (v := 0) (by decide) dL_law_860 ?_
    refine zz_lald (pc := 861) C dL_law_861 (n := 1) (hM10.fr o 3 _ ho9 (by decide)) (by unfold vp_in; decide) ?_
    refine zz_iload (pc := 862) C dL_law_862 rfl ?_
    refine zz_flagL (pc := 864) C dL_law_864 dL_law_867 dL_law_868 dL_law_871 ?_
    refine zz_lcmp (pc := 872) C dL_law_872 ?_
    refine zz_if_eq (pc := 873) C (tgt := 878) dL_law_873 (by decide) (fun _ => ?_) (fun h => absurd (zCmp_b hw9 (Classical.not_not.mp hcz)) h)
    refine zV.less (L' := lL b x y o (nI j)) ⟨rfl, rfl, rfl, rfl, rfl, trivial⟩ ?_
    refine zz_goto (pc := 878) C (tgt := 1886) dL_law_878 (by decide) ?_
    exact zV.widen (zLe3 (Nat.le_trans (Nat.le_of_ble_eq_true (n := 2) (m := 8) rfl) (Nat.le_add_right 8 _)) rfl rfl) (zLe3 (Nat.le_trans (Nat.le_of_ble_eq_true (n := 12) (m := 48) rfl) (Nat.le_add_right 48 _)) rfl rfl) (kk _ _ (if zE2 (¬ zHere σ a1) (zNot σ (pn a1)) = 0 then m0 else m0) (zInv_of (zIfW (fun z => zk_setReaper hW hf2 z) hW) hC9 ho9 hM10) (Nat.le_of_eq (ite_self _).symm))
set_option maxHeartbeats 4000000 in
set_option maxRecDepth 100000 in
theorem lw_c10 {p : Program} {l : Launch} {e : Env} {s : State} {m : MethodId} {below : List Frame} {meth : Method} {c : Code} {D : va_G} {b Ln : Nat} {xs : Nat → Int32} {Q : State → Prop} (hl : l.stackTraces = false) (K : zLw p s m meth c D b Ln xs) {G : zG} {x y o j m0 cells slots : Nat} {σ : zS} (hI : zInv G x y o σ m0) (h1 : vp_in (nI j + 1) Ln) (h2 : vp_in (nI j + 2) Ln) (h3 : vp_in (nI j + 3) Ln) (hr1 : cells + (8 + (16384 - zK m0)) ≤ 601024) (hr2 : slots + (48 + 4 * (16384 - zK m0)) ≤ 7293033)
    (kk : ∀ (G' : zG) (σ' : zS) (m' : Nat), zInv G' x y o σ' m' → m0 ≤ m' → zV p l e room_1 s m #[Value.ref b] below meth c D (lA s) (cells + (8 + (zK m' - zK m0))) (slots + (48 + 4 * (zK m' - zK m0))) Q G' 1886 (lL b x y o (nI j)) []) : zV p l e room_1 s m #[Value.ref b] below meth c D (lA s) cells slots Q G 881 (lL b x y o (nI j)) [] := by
  obtain ⟨C, hX, hbl, h8⟩ := K
  have hbA : ¬ lA s b := Nat.not_le.mpr hbl
  obtain ⟨hW, ⟨tb, ev, A, hC⟩, ⟨ma, th, hM⟩, w, ho⟩ := hI
  obtain ⟨a1, e1⟩ : ∃ z, xs (nI j + 1).toNatClampNeg = z := ⟨_, rfl⟩
  refine zz_aload_n (pc := 881) C dL_law_881 rfl ?_
  refine zz_aload_n (pc := 882) C dL_law_882 rfl ?_
  refine zz_iload (pc := 883) C dL_law_883 rfl ?_
  refine zz_iconst (pc := 885) C (v := 1) (by decide) dL_law_885 ?_
  refine zz_iadd (pc := 886) C dL_law_886 ?_
  refine zz_sld (pc := 887) C hX hbl hbA h1 e1 dL_law_887 ?_
  refine zzx_callSW (pc := 888) C h8 (c_L_openTerminal l hl D (G := G) (x9 := a1) hC  ho) gL_law_L_openTerminal rfl 2 (by decide +kernel) ⟨Nat.le_of_ble_eq_true rfl, Nat.le_of_ble_eq_true rfl⟩ rfl dL_law_888 rfl (Nat.le_of_ble_eq_true rfl) rfl ⟨zRmC (T := 0) hr1 (Nat.le_add_right 3 _) (Nat.le_of_ble_eq_true rfl), zRmS (T := 0) hr2 (Nat.le_add_right 18 _) (Nat.le_of_ble_eq_true rfl)⟩ (fun E hE => hE.elim) ?_
  rintro v G9 ⟨rfl, ⟨A9, hC9⟩, ⟨w9, ho9, hw9⟩, hk2⟩
  obtain ⟨r, hR, hag, hrth, hring⟩ := hM.mv hk2
  refine zz_istore (pc := 891) C dL_law_891 (Nat.le_of_ble_eq_true rfl) ?_
  refine zz_aload_n (pc := 893) C dL_law_893 rfl ?_
  refine zz_aload_n (pc := 894) C dL_law_894 rfl ?_
  refine zz_iload (pc := 895) C dL_law_895 rfl ?_
  refine zz_iconst (pc := 897) C (v := 1) (by decide) dL_law_897 ?_
  refine zz_iadd (pc := 898) C dL_law_898 ?_
  refine zz_sld (pc := 899) C hX hbl hbA h1 e1 dL_law_899 ?_
  have hq1 := zRmU (a := ({ frames := 8, cells := 3, slots := 18, locals := 134 } : Room).cells) hr1 (T := 0) (Nat.le_trans (Nat.le_of_ble_eq_true (n := 3) (m := 5) rfl) (Nat.le_add_right 5 _))
  have hq2 := zRmV (a := ({ frames := 8, cells := 3, slots := 18, locals := 134 } : Room).slots) hr2 (T := 0) (Nat.le_trans (Nat.le_of_ble_eq_true (n := 18) (m := 40) rfl) (Nat.le_add_right 40 _))
  refine zz_callV (pc := 900) C (c_X3_openTerminal l D (σ := σ) (x := a1) hR hag hring ) gL_law_X3_openTerminal rfl 1 (by decide +kernel) ⟨Nat.le_of_ble_eq_true rfl, Nat.le_of_ble_eq_true rfl⟩ hR.2.1 (ci := 3) rfl rfl rfl dL_law_900 rfl (Nat.le_of_ble_eq_true rfl) rfl ⟨hq1, hq2⟩ ?_
  rintro v G10 ⟨rfl, hM10⟩
  obtain ⟨r10, hR10, hag10, hth10, hring10⟩ := id hM10
  refine zz_aload_n (pc := 903) C dL_law_903 rfl ?_
  refine zz_callV (pc := 904) C (c_X3_thrown l D hR10) gL_law_X3_thrown rfl 0 (by decide +kernel) ⟨Nat.le_of_ble_eq_true rfl, Nat.le_of_ble_eq_true rfl⟩ hR10.2.1 (ci := 3) rfl rfl rfl dL_law_904 rfl (Nat.le_of_ble_eq_true rfl) rfl ⟨zRoom0 hq1, zRoom0 hq2⟩ ?_
  rintro v G11 ⟨rfl, rfl⟩
  rw [hth10]
  refine zz_iload (pc := 907) C dL_law_907 rfl ?_
  refine zz_icmp_eq (pc := 909) C (tgt := 914) dL_law_909 (by decide) (fun _ => ?_) (fun h => absurd rfl h)
  refine zV.less (L' := lL b x y o (nI j)) ⟨rfl, rfl, rfl, rfl, rfl, trivial⟩ ?_
  refine zz_goto (pc := 914) C (tgt := 1886) dL_law_914 (by decide) ?_
  exact zV.widen (zLe3 (Nat.le_trans (Nat.le_of_ble_eq_true (n := 3) (m := 8) rfl) (Nat.le_add_right 8 _)) rfl rfl) (zLe3 (Nat.le_trans (Nat.le_of_ble_eq_true (n := 18) (m := 48) rfl) (Nat.le_add_right 48 _)) rfl rfl) (kk _ _ (if zE2 (¬ zHere σ a1) (zNot σ (pn a1) ∨ σ 3 (pn a1) ≠ a1 ∨ σ 21 0 ≠ -1) = 0 then m0 else m0) (zInv_of (zIfW (fun z => zk_openTerminal hW  z) hW) hC9 ho9 hM10) (Nat.le_of_eq (ite_self _).symm))
set_option maxHeartbeats 4000000 in
set_option maxRecDepth 100000 in
theorem lw_c11 {p : Program} {l : Launch} {e : Env} {s : State} {m : MethodId} {below : List Frame} {meth : Method} {c : Code} {D : va_G} {b Ln : Nat} {xs : Nat → Int32} {Q : State → Prop} (hl : l.stackTraces = false) (K : zLw p s m meth c D b Ln xs) {G : zG} {x y o j m0 cells slots : Nat} {σ : zS} (hI : zInv G x y o σ m0) (h1 : vp_in (nI j + 1) Ln) (h2 : vp_in (nI j + 2) Ln) (h3 : vp_in (nI j + 3) Ln) (hr1 : cells + (8 + (16384 - zK m0)) ≤ 601024) (hr2 : slots + (48 + 4 * (16384 - zK m0)) ≤ 7293033)
    (kk : ∀ (G' : zG) (σ' : zS) (m' : Nat), zInv G' x y o σ' m' → m0 ≤ m' → zV p l e room_1 s m #[Value.ref b] below meth c D (lA s) (cells + (8 + (zK m' - zK m0))) (slots + (48 + 4 * (zK m' - zK m0))) Q G' 1886 (lL b x y o (nI j)) []) : zV p l e room_1 s m #[Value.ref b] below meth c D (lA s) cells slots Q G 917 (lL b x y o (nI j)) [] := by
  obtain ⟨C, hX, hbl, h8⟩ := K
  have hbA : ¬ lA s b := Nat.not_le.mpr hbl
  obtain ⟨hW, ⟨tb, ev, A, hC⟩, ⟨ma, th, hM⟩, w, ho⟩ := hI
  obtain ⟨a1, e1⟩ : ∃ z, xs (nI j + 1).toNatClampNeg = z := ⟨_, rfl⟩
  obtain ⟨a2, e2⟩ : ∃ z, xs (nI j + 2).toNatClampNeg = z := ⟨_, rfl⟩
  refine zz_aload_n (pc := 917) C dL_law_917 rfl ?_
  refine zz_aload_n (pc := 918) C dL_law_918 rfl ?_
  refine zz_iload (pc := 919) C dL_law_919 rfl ?_
  refine zz_iconst (pc := 921) C (v := 1) (by decide) dL_law_921 ?_
  refine zz_iadd (pc := 922) C dL_law_922 ?_
  refine zz_sld (pc := 923) C hX hbl hbA h1 e1 dL_law_923 ?_
  refine zz_aload_n (pc := 924) C dL_law_924 rfl ?_
  refine zz_iload (pc := 925) C dL_law_925 rfl ?_
  refine zz_iconst (pc := 927) C (v := 2) (by decide) dL_law_927 ?_
  refine zz_iadd (pc := 928) C dL_law_928 ?_
  refine zz_sld (pc := 929) C hX hbl hbA h2 e2 dL_law_929 ?_
  refine zz_aload_n (pc := 930) C dL_law_930 rfl ?_
  refine zzx_callSW (pc := 931) C h8 (c_L_setForeground l hl D (G := G) (x9 := a1) (g9 := a2) hC  ho) gL_law_L_setForeground rfl 4 (by decide +kernel) ⟨Nat.le_of_ble_eq_true rfl, Nat.le_of_ble_eq_true rfl⟩ rfl dL_law_931 rfl (Nat.le_of_ble_eq_true rfl) rfl ⟨zRmC (T := 0) hr1 (Nat.le_add_right 4 _) (Nat.le_of_ble_eq_true rfl), zRmS (T := 0) hr2 (Nat.le_add_right 24 _) (Nat.le_of_ble_eq_true rfl)⟩ (fun E hE => hE.elim) ?_
  rintro v G9 ⟨rfl, ⟨A9, hC9⟩, ⟨w9, ho9, hw9⟩, hk2⟩
  obtain ⟨r, hR, hag, hrth, hring⟩ := hM.mv hk2
  refine zz_istore (pc := 934) C dL_law_934 (Nat.le_of_ble_eq_true rfl) ?_
  refine zz_aload_n (pc := 936) C dL_law_936 rfl ?_
  refine zz_aload_n (pc := 937) C dL_law_937 rfl ?_
  refine zz_iload (pc := 938) C dL_law_938 rfl ?_
  refine zz_iconst (pc := 940) C (v := 1) (by decide) dL_law_940 ?_
  refine zz_iadd (pc := 941) C dL_law_941 ?_
  refine zz_sld (pc := 942) C hX hbl hbA h1 e1 dL_law_942 ?_
  refine zz_aload_n (pc := 943) C dL_law_943 rfl ?_
  refine zz_iload (pc := 944) C dL_law_944 rfl ?_
  refine zz_iconst (pc := 946) C (v := 2) (by decide) dL_law_946 ?_
  refine zz_iadd (pc := 947) C dL_law_947 ?_
  refine zz_sld (pc := 948) C hX hbl hbA h2 e2 dL_law_948 ?_
  have hq1 := zRmU (a := ({ frames := 9, cells := 4, slots := 24, locals := 156 } : Room).cells) hr1 (T := 0) (Nat.le_trans (Nat.le_of_ble_eq_true (n := 4) (m := 5) rfl) (Nat.le_add_right 5 _))
  have hq2 := zRmV (a := ({ frames := 9, cells := 4, slots := 24, locals := 156 } : Room).slots) hr2 (T := 0) (Nat.le_trans (Nat.le_of_ble_eq_true (n := 24) (m := 40) rfl) (Nat.le_add_right 40 _))
  refine zz_callV (pc := 949) C (c_X3_setForeground l D (σ := σ) (x := a1) (g9 := a2) hR hag hring hW.z) gL_law_X3_setForeground rfl 2 (by decide +kernel) ⟨Nat.le_of_ble_eq_true rfl, Nat.le_of_ble_eq_true rfl⟩ hR.2.1 (ci := 3) rfl rfl rfl dL_law_949 rfl (Nat.le_of_ble_eq_true rfl) rfl ⟨hq1, hq2⟩ ?_
  rintro v G10 ⟨rfl, hM10⟩
  obtain ⟨r10, hR10, hag10, hth10, hring10⟩ := id hM10
  refine zz_istore (pc := 952) C dL_law_952 (Nat.le_of_ble_eq_true rfl) ?_
  refine zz_aload_n (pc := 954) C dL_law_954 rfl ?_
  refine zz_callV (pc := 955) C (c_X3_thrown l D hR10) gL_law_X3_thrown rfl 0 (by decide +kernel) ⟨Nat.le_of_ble_eq_true rfl, Nat.le_of_ble_eq_true rfl⟩ hR10.2.1 (ci := 3) rfl rfl rfl dL_law_955 rfl (Nat.le_of_ble_eq_true rfl) rfl ⟨zRoom0 hq1, zRoom0 hq2⟩ ?_
  rintro v G11 ⟨rfl, rfl⟩
  rw [hth10]
  refine zz_iload (pc := 958) C dL_law_958 rfl ?_
  refine zz_icmp_eq (pc := 960) C (tgt := 965) dL_law_960 (by decide) (fun _ => ?_) (fun h => absurd rfl h)
  refine zz_iload (pc := 965) C dL_law_965 rfl ?_
  refine zz_if_ne (pc := 967) C (tgt := 982) dL_law_967 (by decide) (fun _ => ?_) (fun hcz => ?_)
  · refine zV.less (L' := lL b x y o (nI j)) ⟨rfl, rfl, rfl, rfl, rfl, trivial⟩ ?_
    refine zz_goto (pc := 982) C (tgt := 1886) dL_law_982 (by decide) ?_
    exact zV.widen (zLe3 (Nat.le_trans (Nat.le_of_ble_eq_true (n := 4) (m := 8) rfl) (Nat.le_add_right 8 _)) rfl rfl) (zLe3 (Nat.le_trans (Nat.le_of_ble_eq_true (n := 24) (m := 48) rfl) (Nat.le_add_right 48 _)) rfl rfl) (kk _ _ (if zE3 (¬ zHere σ a1) (a2 < 1 ∨ (40 : Int32) < a2) (zNot σ (pn a1) ∨ σ 3 (pn a1) ≠ σ 21 0 ∨ ¬ zIsIn σ a2 (σ 3 (pn a1)) 41) = 0 then m0 else m0) (zInv_of (zIfW (fun z => zk_setForeground hW  z) hW) hC9 ho9 hM10) (Nat.le_of_eq (ite_self _).symm))
  · skip
    refine zz_aload_n (pc := 970) C dL_law_970 rfl ?_
    refine zz_iconst (pc := 971) C (v := 0) (by decide) dL_law_971 ?_
    refine zz_lald (pc := 972) C dL_law_972 (n := 1) (hM10.fr o 3 _ ho9 (by decide)) (by unfold vp_in; decide) ?_
    refine zz_iload (pc := 973) C dL_law_973 rfl ?_
    refine zz_i2l (pc := 975) C dL_law_975 ?_
    refine zz_lcmp (pc := 976) C dL_law_976 ?_
    refine zz_if_eq (pc := 977) C (tgt := 982) dL_law_977 (by decide) (fun _ => ?_) (fun h => absurd (zCmp_i hw9 (Classical.not_not.mp hcz)) h)
    refine zV.less (L' := lL b x y o (nI j)) ⟨rfl, rfl, rfl, rfl, rfl, trivial⟩ ?_
    refine zz_goto (pc := 982) C (tgt := 1886) dL_law_982 (by decide) ?_
    exact zV.widen (zLe3 (Nat.le_trans (Nat.le_of_ble_eq_true (n := 4) (m := 8) rfl) (Nat.le_add_right 8 _)) rfl rfl) (zLe3 (Nat.le_trans (Nat.le_of_ble_eq_true (n := 24) (m := 48) rfl) (Nat.le_add_right 48 _)) rfl rfl) (kk _ _ (if zE3 (¬ zHere σ a1) (a2 < 1 ∨ (40 : Int32) < a2) (zNot σ (pn a1) ∨ σ 3 (pn a1) ≠ σ 21 0 ∨ ¬ zIsIn σ a2 (σ 3 (pn a1)) 41) = 0 then m0 else m0) (zInv_of (zIfW (fun z => zk_setForeground hW  z) hW) hC9 ho9 hM10) (Nat.le_of_eq (ite_self _).symm))
set_option maxHeartbeats 4000000 in
set_option maxRecDepth 100000 in
theorem lw_c12 {p : Program} {l : Launch} {e : Env} {s : State} {m : MethodId} {below : List Frame} {meth : Method} {c : Code} {D : va_G} {b Ln : Nat} {xs : Nat → Int32} {Q : State → Prop} (hl : l.stackTraces = false) (K : zLw p s m meth c D b Ln xs) {G : zG} {x y o j m0 cells slots : Nat} {σ : zS} (hI : zInv G x y o σ m0) (h1 : vp_in (nI j + 1) Ln) (h2 : vp_in (nI j + 2) Ln) (h3 : vp_in (nI j + 3) Ln) (hr1 : cells + (8 + (16384 - zK m0)) ≤ 601024) (hr2 : slots + (48 + 4 * (16384 - zK m0)) ≤ 7293033)
    (kk : ∀ (G' : zG) (σ' : zS) (m' : Nat), zInv G' x y o σ' m' → m0 ≤ m' → zV p l e room_1 s m #[Value.ref b] below meth c D (lA s) (cells + (8 + (zK m' - zK m0))) (slots + (48 + 4 * (zK m' - zK m0))) Q G' 1886 (lL b x y o (nI j)) []) : zV p l e room_1 s m #[Value.ref b] below meth c D (lA s) cells slots Q G 985 (lL b x y o (nI j)) [] := by
  obtain ⟨C, hX, hbl, h8⟩ := K
  have hbA : ¬ lA s b := Nat.not_le.mpr hbl
  obtain ⟨hW, ⟨tb, ev, A, hC⟩, ⟨ma, th, hM⟩, w, ho⟩ := hI
  obtain ⟨a1, e1⟩ : ∃ z, xs (nI j + 1).toNatClampNeg = z := ⟨_, rfl⟩
  obtain ⟨a2, e2⟩ : ∃ z, xs (nI j + 2).toNatClampNeg = z := ⟨_, rfl⟩
  obtain ⟨N, hrd, hNw, hNm⟩ := zPick (TH := zE2 (¬ zHere σ a1) (a2 < 0 ∨ ¬ a2 < 9)) (X := (σ, [(pn a2, pn a1)])) (m0 := m0) (fun z => zk_send hW z)
  refine zz_aload_n (pc := 985) C dL_law_985 rfl ?_
  refine zz_aload_n (pc := 986) C dL_law_986 rfl ?_
  refine zz_iload (pc := 987) C dL_law_987 rfl ?_
  refine zz_iconst (pc := 989) C (v := 1) (by decide) dL_law_989 ?_
  refine zz_iadd (pc := 990) C dL_law_990 ?_
  refine zz_sld (pc := 991) C hX hbl hbA h1 e1 dL_law_991 ?_
  refine zz_aload_n (pc := 992) C dL_law_992 rfl ?_
  refine zz_iload (pc := 993) C dL_law_993 rfl ?_
  refine zz_iconst (pc := 995) C (v := 2) (by decide) dL_law_995 ?_
  refine zz_iadd (pc := 996) C dL_law_996 ?_
  refine zz_sld (pc := 997) C hX hbl hbA h2 e2 dL_law_997 ?_
  refine zzx_callSW (pc := 998) C h8 (c_L_send l hl D (G := G) (x9 := a1) (s9 := a2) (X := (σ, [(pn a2, pn a1)])) (N := N) hC rfl hrd ho) gL_law_L_send rfl 3 (by decide +kernel) ⟨Nat.le_of_ble_eq_true rfl, Nat.le_of_ble_eq_true rfl⟩ rfl dL_law_998 rfl (Nat.le_of_ble_eq_true rfl) rfl ⟨zRmC hr1 (Nat.le_refl _) (Nat.le_of_ble_eq_true rfl), zRmS hr2 (Nat.le_refl _) (Nat.le_of_ble_eq_true rfl)⟩ (fun E hE => hE.elim) ?_
  rintro v G9 ⟨rfl, ⟨A9, hC9⟩, ⟨w9, ho9, hw9⟩, hk2⟩
  obtain ⟨r, hR, hag, hrth, hring⟩ := hM.mv hk2
  refine zz_istore (pc := 1001) C dL_law_1001 (Nat.le_of_ble_eq_true rfl) ?_
  refine zz_aload_n (pc := 1003) C dL_law_1003 rfl ?_
  refine zz_aload_n (pc := 1004) C dL_law_1004 rfl ?_
  refine zz_iload (pc := 1005) C dL_law_1005 rfl ?_
  refine zz_iconst (pc := 1007) C (v := 1) (by decide) dL_law_1007 ?_
  refine zz_iadd (pc := 1008) C dL_law_1008 ?_
  refine zz_sld (pc := 1009) C hX hbl hbA h1 e1 dL_law_1009 ?_
  refine zz_aload_n (pc := 1010) C dL_law_1010 rfl ?_
  refine zz_iload (pc := 1011) C dL_law_1011 rfl ?_
  refine zz_iconst (pc := 1013) C (v := 2) (by decide) dL_law_1013 ?_
  refine zz_iadd (pc := 1014) C dL_law_1014 ?_
  refine zz_sld (pc := 1015) C hX hbl hbA h2 e2 dL_law_1015 ?_
  have hq1 := zRmU (a := (zRmX 10 251 m0 (zCount N ((σ, [(pn a2, pn a1)])).1 ((σ, [(pn a2, pn a1)])).2) 2).cells) hr1 (Nat.add_le_add (Nat.le_of_ble_eq_true rfl) (Nat.le_refl _))
  have hq2 := zRmV (a := (zRmX 10 251 m0 (zCount N ((σ, [(pn a2, pn a1)])).1 ((σ, [(pn a2, pn a1)])).2) 2).slots) hr2 (Nat.add_le_add (Nat.le_of_ble_eq_true rfl) (Nat.le_refl _))
  refine zz_callV (pc := 1016) C (c_X3_send l D (σ := σ) (x := a1) (s9 := a2) (N := N) hR hag hring (fun z => (hrd z).x)) gL_law_X3_send rfl 2 (by decide +kernel) ⟨Nat.le_of_ble_eq_true rfl, Nat.le_of_ble_eq_true rfl⟩ hR.2.1 (ci := 3) rfl rfl rfl dL_law_1016 rfl (Nat.le_of_ble_eq_true rfl) rfl ⟨hq1, hq2⟩ ?_
  rintro v G10 ⟨rfl, hM10⟩
  obtain ⟨r10, hR10, hag10, hth10, hring10⟩ := id hM10
  refine zz_aload_n (pc := 1019) C dL_law_1019 rfl ?_
  refine zz_callV (pc := 1020) C (c_X3_thrown l D hR10) gL_law_X3_thrown rfl 0 (by decide +kernel) ⟨Nat.le_of_ble_eq_true rfl, Nat.le_of_ble_eq_true rfl⟩ hR10.2.1 (ci := 3) rfl rfl rfl dL_law_1020 rfl (Nat.le_of_ble_eq_true rfl) rfl ⟨zRoom0 hq1, zRoom0 hq2⟩ ?_
  rintro v G11 ⟨rfl, rfl⟩
  rw [hth10]
  refine zz_iload (pc := 1023) C dL_law_1023 rfl ?_
  refine zz_icmp_eq (pc := 1025) C (tgt := 1030) dL_law_1025 (by decide) (fun _ => ?_) (fun h => absurd rfl h)
  refine zV.less (L' := lL b x y o (nI j)) ⟨rfl, rfl, rfl, rfl, rfl, trivial⟩ ?_
  refine zz_goto (pc := 1030) C (tgt := 1886) dL_law_1030 (by decide) ?_
  exact zV.widen (zLe3 (Nat.add_le_add (Nat.le_of_ble_eq_true rfl) (Nat.le_of_eq hNw)) rfl rfl) (zLe3 (Nat.add_le_add (Nat.le_of_ble_eq_true rfl) (Nat.mul_le_mul_left 4 (Nat.le_of_eq hNw))) rfl rfl) (kk _ _ (if zE2 (¬ zHere σ a1) (a2 < 0 ∨ ¬ a2 < 9) = 0 then max m0 (zCount N ((σ, [(pn a2, pn a1)])).1 ((σ, [(pn a2, pn a1)])).2) else m0) (zInv_of (zIfW (fun z => (hrd z).wf) hW) hC9 ho9 hM10) hNm)
