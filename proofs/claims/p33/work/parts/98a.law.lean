/-! the law's loop, its end, its beginning -/
section ZLX
variable {p : Program} {l : Launch} {e : Env} {R : Room} {s : State} {m : MethodId} {args : Array Value} {below : List Frame} {meth : Method} {c : Code} {D : va_G} {A : Nat → Prop} {cells slots : Nat} {Q : State → Prop} {G : zG} {pc : Nat} {L : List (Option Value)} {st st0 : List Value}
variable {cc : ByteArray} {nL : Nat} {own : String} {Ts : List Cond} {ret : Option FieldType} {Post : Option Value → zG → Prop} {PX : String → Prop}
variable {y : MethodName} {bytes : ByteArray} {maxL n index : Nat} {ws ws' : List Cond} {rm : Room} {As : List Value} {b : Nat}
theorem zzx_callI (C : zC p s m args meth c D A cc nL own Ts ret) (h8 : zSt8 A s) (hM : zxMet D l y ws rm (.ref b :: As) G Post PX) (hT : GoodIn Ts ws) (hw : ws = Cond.code y bytes maxL none :: ws') (n : Nat) (hini : Cond.initialized y.cls ∈ Ts) (hlk : Cond.methodLink own index y ∈ Ts) (him : Cond.instanceMethod y ∈ Ts) (hy1 : y.name = "<init>")
    (hd : y.cls ≠ "java/lang/invoke/MethodHandle" ∧ y.cls ≠ "java/lang/invoke/VarHandle" ∧ (parseMethodDescriptor y.desc).map (fun d => d.parameters.length) = some n) (hR : rm.frames + 1 ≤ R.frames ∧ 8 + (maxL + 11) + rm.locals ≤ R.locals)
    (hn : As.length = n) (hdg : decode cc pc = .ok (.invokespecial index, 3)) (hst : st0 = As.reverse ++ .ref b :: st) (hcat : (st.map fun v => v.category).sum ≤ 8) (hlen : L.length = nL) (hroom : cells + rm.cells ≤ R.cells ∧ slots + rm.slots ≤ R.slots)
    (kx : ∀ E : String, PX E → zVX p l e R s m args below meth c D A (cells + rm.cells) (slots + rm.slots) Q G pc L st E)
    (kk : ∀ (v : Option Value) (G' : zG), Post v G' → zV p l e R s m args below meth c D A (cells + rm.cells) (slots + rm.slots) Q G' (pc + 3) L (v.toList ++ st)) : zV p l e R s m args below meth c D A cells slots Q G pc L st0 := by
  subst hst
  refine zzx_run (av := (Value.ref b :: As).toArray) C.2.2.1 (fun H locs ls hP hL hS hG => ?_) kx kk
  exact vx_runI (As := As) (rest := st) C.1 (hM H.size) (cwI (maxL := maxL) (bytes := bytes) n (fun w h => C.ts h) hT hw rfl rfl (C.ts hini) (C.ts hlk) (C.ts him) hy1 hd hR) ⟨zxPre.blind, fun U hU hW => ⟨rfl, zxPre_at C.2.1 hP h8 hS hG C.2.2.1 hU hW⟩⟩ rfl hn (hL.1.trans hlen) rfl (lv_room hcat) hdg hroom
end ZLX
abbrev lA (s : State) : Nat → Prop := fun q => s.heap.size ≤ q
def zLw (p : Program) (s : State) (m : MethodId) (meth : Method) (c : Code) (D : va_G) (b Ln : Nat) (xs : Nat → Int32) : Prop :=
  zC p s m #[Value.ref b] meth c D (lA s) cL_law 4 RL wsL_law (some .boolean) ∧ va_X b Ln xs s s.heap ∧ b < s.heap.size ∧ zSt8 (lA s) s
abbrev zB0 : zG := fun _ => none
theorem zRx_z {m f l k : Nat} {a : zS} {q : List zEv} : (zRmX f l m (zCount 0 a q) k).cells = k ∧ (zRmX f l m (zCount 0 a q) k).slots = 6 * k := by
  have e1 : (zRmX f l m (zCount 0 a q) k).cells = k + zW m 0 := rfl
  have e2 : (zRmX f l m (zCount 0 a q) k).slots = 6 * k + 4 * zW m 0 := rfl
  rw [e1, e2, zW_00]
  exact ⟨rfl, rfl⟩
theorem z4k (k : Nat) : (4 : Int32) * nI k = nI (4 * k) := (Int32.ofNat_mul 4 k).symm
set_option maxHeartbeats 4000000 in
set_option maxRecDepth 100000 in
theorem lw_end {p : Program} {l : Launch} {e : Env} {s : State} {m : MethodId} {below : List Frame} {meth : Method} {c : Code} {D : va_G} {b Ln : Nat} {xs : Nat → Int32} (hl : l.stackTraces = false) (K : zLw p s m meth c D b Ln xs) {x tb ev : Nat} {A : Nat → Nat} {σ : zS} {m0 cells slots : Nat} {G : zG} (hC : zCl zB0 x tb ev A σ [] 0 m0 G) (hI : zIv 0 σ []) (hc : cells ≤ 50000) (hs : slots ≤ 500000) (k : Int32) : zV p l e room_1 s m #[Value.ref b] below meth c D (lA s) cells slots (lw_Z below #[Value.ref b] s) G 86 [some (.ref b), some (.ref x), some (.int (1)), some (.int (k))] [] := by
  obtain ⟨C, hX, hbl, h8⟩ := K
  have hW := hI.wf
  have hh1 : ¬ ¬ zHere σ 1 := fun z => z ⟨by decide, by decide, by rw [show pn (1 : Int32) = 1 by decide]; exact hW.x0⟩
  have hn1 : zNot σ (pn 1) := Or.inl (by decide)
  refine zV.widen (k := cells + 0) (n := slots + 0) (Nat.le_refl _) (Nat.le_refl _) ?_
  refine zz_iload_n (pc := 86) C dL_law_86 rfl ?_
  refine zz_if_eq (pc := 87) C (tgt := 197) dL_law_87 (by decide) (fun hc87 => ?_) (fun hc87 => ?_)
  · exact absurd hc87 (by decide)
  · refine zz_aload_n (pc := 90) C dL_law_90 rfl ?_
    refine zz_iconst (pc := 91) C (v := 0) (by decide) dL_law_91 ?_
    have hTH : zE2 (¬ zHere σ 0) (¬ zRunN σ (pn 0) ∨ zFreeV σ = -1) = 1 := zE2_1 (fun z => absurd z.1 (by decide))
    refine zzx_callSW (pc := 92) C h8 ((c_L_forks l hl D (x9 := 0) hC hW).imp (fun _ _ z => z.elim (fun y => absurd (hTH.symm.trans y.1) (by decide)) (fun z => z.elim id (fun z => absurd (hTH.symm.trans z.1) (by decide)))) (fun _ z => z)) gL_law_L_forks rfl 2 (by decide +kernel) ⟨Nat.le_of_ble_eq_true rfl, Nat.le_of_ble_eq_true rfl⟩ rfl dL_law_92 rfl (Nat.le_of_ble_eq_true rfl) rfl ⟨by show cells + 0 + 3 ≤ 600130; omega, by show slots + 0 + 40 ≤ 7301080; omega⟩ (fun E hE => hE.elim) ?_
    rintro v G9 ⟨_, rfl, rfl⟩
    refine zV.widen (k := cells + 3) (n := slots + 40) (by show cells + 0 + 3 ≤ _; omega) (by show slots + 0 + 40 ≤ _; omega) ?_
    refine zz_bipush (pc := 95) C (v := -30) (by decide) dL_law_95 ?_
    refine zz_icmp_ne (pc := 97) C (tgt := 197) dL_law_97 (by decide) (fun hc97 => ?_) (fun hc97 => ?_)
    · exact absurd rfl hc97
    · refine zz_aload_n (pc := 100) C dL_law_100 rfl ?_
      refine zz_bipush (pc := 101) C (v := 41) (by decide) dL_law_101 ?_
      have hTH : zE2 (¬ zHere σ 41) (zNot σ (pn 41)) = 1 := zE2_1 (fun z => absurd z.2.1 (by decide))
      refine zzx_callSW (pc := 103) C h8 ((c_L_execs l hl D (x9 := 41) hC).imp (fun _ _ z => z.elim (fun y => absurd (hTH.symm.trans y.1) (by decide)) (fun z => z.elim id (fun z => absurd (hTH.symm.trans z.1) (by decide)))) (fun _ z => z)) gL_law_L_execs rfl 2 (by decide +kernel) ⟨Nat.le_of_ble_eq_true rfl, Nat.le_of_ble_eq_true rfl⟩ rfl dL_law_103 rfl (Nat.le_of_ble_eq_true rfl) rfl ⟨by show cells + 3 + 2 ≤ 600130; omega, by show slots + 40 + 12 ≤ 7301080; omega⟩ (fun E hE => hE.elim) ?_
      rintro v G9 ⟨_, rfl, rfl⟩
      refine zV.widen (k := cells + 5) (n := slots + 52) (by show cells + 3 + 2 ≤ _; omega) (by show slots + 40 + 12 ≤ _; omega) ?_
      refine zz_bipush (pc := 106) C (v := -30) (by decide) dL_law_106 ?_
      refine zz_icmp_ne (pc := 108) C (tgt := 197) dL_law_108 (by decide) (fun hc108 => ?_) (fun hc108 => ?_)
      · exact absurd rfl hc108
      · refine zz_aload_n (pc := 111) C dL_law_111 rfl ?_
        refine zz_iconst (pc := 112) C (v := 1) (by decide) dL_law_112 ?_
        have hTH : zE2 (¬ zHere σ 1) (zNot σ (pn 1)) = 2 := zE2_2 hh1 hn1
        refine zzx_callSW (pc := 113) C h8 ((c_L_execs l hl D (x9 := 1) hC).imp (fun _ _ z => z.elim (fun y => absurd (hTH.symm.trans y.1) (by decide)) (fun z => z.elim (fun y => absurd (hTH.symm.trans y.1) (by decide)) (fun z => z))) (fun _ z => z)) gL_law_L_execs rfl 2 (by decide +kernel) ⟨Nat.le_of_ble_eq_true rfl, Nat.le_of_ble_eq_true rfl⟩ rfl dL_law_113 rfl (Nat.le_of_ble_eq_true rfl) rfl ⟨by show cells + 5 + 2 ≤ 600130; omega, by show slots + 52 + 12 ≤ 7301080; omega⟩ (fun E hE => hE.elim) ?_
        rintro v G9 ⟨_, rfl, rfl⟩
        refine zV.widen (k := cells + 7) (n := slots + 64) (by show cells + 5 + 2 ≤ _; omega) (by show slots + 52 + 12 ≤ _; omega) ?_
        refine zz_bipush (pc := 116) C (v := -10) (by decide) dL_law_116 ?_
        refine zz_icmp_ne (pc := 118) C (tgt := 197) dL_law_118 (by decide) (fun hc118 => ?_) (fun hc118 => ?_)
        · exact absurd rfl hc118
        · refine zz_aload_n (pc := 121) C dL_law_121 rfl ?_
          refine zz_bipush (pc := 122) C (v := 41) (by decide) dL_law_122 ?_
          refine zz_sipush (pc := 124) C (v := 256) (by decide) dL_law_124 ?_
          have hTH : zE3 (¬ zHere σ 41) ((256 : Int32) < 0 ∨ (255 : Int32) < 256) (zNot σ (pn 41)) = 1 := zE3_1 (fun z => absurd z.2.1 (by decide))
          refine zzx_callSW (pc := 127) C h8 ((c_L_exits l hl D (x9 := 41) (c9 := 256) (X := zTerm (σ, []) (pn 41) 0 (256)) (N := 0) hC hW rfl (fun z => absurd (hTH.symm.trans z) (by decide))).imp (fun _ _ z => z.elim (fun y => absurd (hTH.symm.trans y.1) (by decide)) (fun z => z.elim id (fun z => z.elim (fun y => absurd (hTH.symm.trans y.1) (by decide)) (fun z => absurd (hTH.symm.trans z.1) (by decide))))) (fun _ z => z)) gL_law_L_exits rfl 3 (by decide +kernel) ⟨Nat.le_of_ble_eq_true rfl, Nat.le_of_ble_eq_true rfl⟩ rfl dL_law_127 rfl (Nat.le_of_ble_eq_true rfl) rfl ⟨by rw [zRx_z.1]; show cells + 7 + 3 ≤ 600130; omega, by rw [zRx_z.2]; show slots + 64 + 6 * 3 ≤ 7301080; omega⟩ (fun E hE => hE.elim) ?_
          rintro v G9 ⟨_, rfl, rfl⟩
          refine zV.widen (k := cells + 10) (n := slots + 82) (by rw [zRx_z.1]; show cells + 7 + 3 ≤ _; omega) (by rw [zRx_z.2]; show slots + 64 + 6 * 3 ≤ _; omega) ?_
          refine zz_bipush (pc := 130) C (v := -30) (by decide) dL_law_130 ?_
          refine zz_icmp_ne (pc := 132) C (tgt := 197) dL_law_132 (by decide) (fun hc132 => ?_) (fun hc132 => ?_)
          · exact absurd rfl hc132
          · refine zz_aload_n (pc := 135) C dL_law_135 rfl ?_
            refine zz_iconst (pc := 136) C (v := 1) (by decide) dL_law_136 ?_
            refine zz_iconst (pc := 137) C (v := -1) (by decide) dL_law_137 ?_
            have hTH : zE3 (¬ zHere σ 1) ((-1 : Int32) < 0 ∨ (255 : Int32) < -1) (zNot σ (pn 1)) = 2 := zE3_2 hh1 (Or.inl (by decide))
            refine zzx_callSW (pc := 138) C h8 ((c_L_exits l hl D (x9 := 1) (c9 := -1) (X := zTerm (σ, []) (pn 1) 0 (-1)) (N := 0) hC hW rfl (fun z => absurd (hTH.symm.trans z) (by decide))).imp (fun _ _ z => z.elim (fun y => absurd (hTH.symm.trans y.1) (by decide)) (fun z => z.elim (fun y => absurd (hTH.symm.trans y.1) (by decide)) (fun z => z.elim id (fun z => absurd (hTH.symm.trans z.1) (by decide))))) (fun _ z => z)) gL_law_L_exits rfl 3 (by decide +kernel) ⟨Nat.le_of_ble_eq_true rfl, Nat.le_of_ble_eq_true rfl⟩ rfl dL_law_138 rfl (Nat.le_of_ble_eq_true rfl) rfl ⟨by rw [zRx_z.1]; show cells + 10 + 3 ≤ 600130; omega, by rw [zRx_z.2]; show slots + 82 + 6 * 3 ≤ 7301080; omega⟩ (fun E hE => hE.elim) ?_
            rintro v G9 ⟨_, rfl, rfl⟩
            refine zV.widen (k := cells + 13) (n := slots + 100) (by rw [zRx_z.1]; show cells + 10 + 3 ≤ _; omega) (by rw [zRx_z.2]; show slots + 82 + 6 * 3 ≤ _; omega) ?_
            refine zz_bipush (pc := 141) C (v := -20) (by decide) dL_law_141 ?_
            refine zz_icmp_ne (pc := 143) C (tgt := 197) dL_law_143 (by decide) (fun hc143 => ?_) (fun hc143 => ?_)
            · exact absurd rfl hc143
            · refine zz_aload_n (pc := 146) C dL_law_146 rfl ?_
              refine zz_iconst (pc := 147) C (v := 1) (by decide) dL_law_147 ?_
              refine zz_iconst (pc := 148) C (v := 0) (by decide) dL_law_148 ?_
              have hTH : zE3 (¬ zHere σ 1) ((0 : Int32) < 0 ∨ (255 : Int32) < 0) (zNot σ (pn 1)) = 3 := zE3_3 hh1 (by decide) hn1
              refine zzx_callSW (pc := 149) C h8 ((c_L_exits l hl D (x9 := 1) (c9 := 0) (X := zTerm (σ, []) (pn 1) 0 (0)) (N := 0) hC hW rfl (fun z => absurd (hTH.symm.trans z) (by decide))).imp (fun _ _ z => z.elim (fun y => absurd (hTH.symm.trans y.1) (by decide)) (fun z => z.elim (fun y => absurd (hTH.symm.trans y.1) (by decide)) (fun z => z.elim (fun y => absurd (hTH.symm.trans y.1) (by decide)) (fun z => z)))) (fun _ z => z)) gL_law_L_exits rfl 3 (by decide +kernel) ⟨Nat.le_of_ble_eq_true rfl, Nat.le_of_ble_eq_true rfl⟩ rfl dL_law_149 rfl (Nat.le_of_ble_eq_true rfl) rfl ⟨by rw [zRx_z.1]; show cells + 13 + 3 ≤ 600130; omega, by rw [zRx_z.2]; show slots + 100 + 6 * 3 ≤ 7301080; omega⟩ (fun E hE => hE.elim) ?_
              rintro v G9 ⟨_, rfl, rfl⟩
              refine zV.widen (k := cells + 16) (n := slots + 118) (by rw [zRx_z.1]; show cells + 13 + 3 ≤ _; omega) (by rw [zRx_z.2]; show slots + 100 + 6 * 3 ≤ _; omega) ?_
              refine zz_bipush (pc := 152) C (v := -10) (by decide) dL_law_152 ?_
              refine zz_icmp_ne (pc := 154) C (tgt := 197) dL_law_154 (by decide) (fun hc154 => ?_) (fun hc154 => ?_)
              · exact absurd rfl hc154
              · refine zz_aload_n (pc := 157) C dL_law_157 rfl ?_
                refine zz_iconst (pc := 158) C (v := 1) (by decide) dL_law_158 ?_
                refine zz_iconst (pc := 159) C (v := 1) (by decide) dL_law_159 ?_
                have hTH : zE2 (¬ zHere σ 1) (zNot σ (pn 1)) = 2 := zE2_2 hh1 hn1
                refine zzx_callSW (pc := 160) C h8 ((c_L_waitsAny l hl D (x9 := 1) (f9 := 1) hC hW (Or.inr rfl)).imp (fun _ _ z => z.elim (fun y => absurd (hTH.symm.trans y.1) (by decide)) (fun z => z.elim (fun y => absurd (hTH.symm.trans y.1) (by decide)) (fun z => z))) (fun _ z => z)) gL_law_L_waitsAny rfl 3 (by decide +kernel) ⟨Nat.le_of_ble_eq_true rfl, Nat.le_of_ble_eq_true rfl⟩ rfl dL_law_160 rfl (Nat.le_of_ble_eq_true rfl) rfl ⟨by show cells + 16 + 2 ≤ 600130; omega, by show slots + 118 + 12 ≤ 7301080; omega⟩ (fun E hE => hE.elim) ?_
                rintro v G9 ⟨_, rfl, rfl⟩
                refine zV.widen (k := cells + 18) (n := slots + 130) (by show cells + 16 + 2 ≤ _; omega) (by show slots + 118 + 12 ≤ _; omega) ?_
                refine zz_bipush (pc := 163) C (v := -10) (by decide) dL_law_163 ?_
                refine zz_icmp_ne (pc := 165) C (tgt := 197) dL_law_165 (by decide) (fun hc165 => ?_) (fun hc165 => ?_)
                · exact absurd rfl hc165
                · refine zz_aload_n (pc := 168) C dL_law_168 rfl ?_
                  refine zz_iconst (pc := 169) C (v := 1) (by decide) dL_law_169 ?_
                  refine zz_iconst (pc := 170) C (v := 0) (by decide) dL_law_170 ?_
                  refine zz_iconst (pc := 171) C (v := 1) (by decide) dL_law_171 ?_
                  have hTH : zE3 (¬ zHere σ 1) ((0 : Int32) < 1 ∨ (40 : Int32) < 0) (zNot σ (pn 1)) = 2 := zE3_2 hh1 (Or.inl (by decide))
                  refine zzx_callSW (pc := 172) C h8 ((c_L_waitsFor l hl D (x9 := 1) (c9 := 0) (f9 := 1) hC hW (Or.inr rfl)).imp (fun _ _ z => z.elim (fun y => absurd (hTH.symm.trans y.1) (by decide)) (fun z => z.elim (fun y => absurd (hTH.symm.trans y.1) (by decide)) (fun z => z.elim id (fun z => absurd (hTH.symm.trans z.1) (by decide))))) (fun _ z => z)) gL_law_L_waitsFor rfl 4 (by decide +kernel) ⟨Nat.le_of_ble_eq_true rfl, Nat.le_of_ble_eq_true rfl⟩ rfl dL_law_172 rfl (Nat.le_of_ble_eq_true rfl) rfl ⟨by show cells + 18 + 3 ≤ 600130; omega, by show slots + 130 + 18 ≤ 7301080; omega⟩ (fun E hE => hE.elim) ?_
                  rintro v G9 ⟨_, rfl, rfl⟩
                  refine zV.widen (k := cells + 21) (n := slots + 148) (by show cells + 18 + 3 ≤ _; omega) (by show slots + 130 + 18 ≤ _; omega) ?_
                  refine zz_bipush (pc := 175) C (v := -20) (by decide) dL_law_175 ?_
                  refine zz_icmp_ne (pc := 177) C (tgt := 197) dL_law_177 (by decide) (fun hc177 => ?_) (fun hc177 => ?_)
                  · exact absurd rfl hc177
                  · refine zz_aload_n (pc := 180) C dL_law_180 rfl ?_
                    refine zz_bipush (pc := 181) C (v := 41) (by decide) dL_law_181 ?_
                    refine zz_iconst (pc := 183) C (v := 0) (by decide) dL_law_183 ?_
                    refine zz_iconst (pc := 184) C (v := 1) (by decide) dL_law_184 ?_
                    have hTH : zE3 (¬ zHere σ 41) ((0 : Int32) < 1 ∨ (40 : Int32) < 0) (zNot σ (pn 41)) = 1 := zE3_1 (fun z => absurd z.2.1 (by decide))
                    refine zzx_callSW (pc := 185) C h8 ((c_L_waitsFor l hl D (x9 := 41) (c9 := 0) (f9 := 1) hC hW (Or.inr rfl)).imp (fun _ _ z => z.elim (fun y => absurd (hTH.symm.trans y.1) (by decide)) (fun z => z.elim id (fun z => z.elim (fun y => absurd (hTH.symm.trans y.1) (by decide)) (fun z => absurd (hTH.symm.trans z.1) (by decide))))) (fun _ z => z)) gL_law_L_waitsFor rfl 4 (by decide +kernel) ⟨Nat.le_of_ble_eq_true rfl, Nat.le_of_ble_eq_true rfl⟩ rfl dL_law_185 rfl (Nat.le_of_ble_eq_true rfl) rfl ⟨by show cells + 21 + 3 ≤ 600130; omega, by show slots + 148 + 18 ≤ 7301080; omega⟩ (fun E hE => hE.elim) ?_
                    rintro v G9 ⟨_, rfl, rfl⟩
                    refine zV.widen (k := cells + 24) (n := slots + 166) (by show cells + 21 + 3 ≤ _; omega) (by show slots + 148 + 18 ≤ _; omega) ?_
                    refine zz_bipush (pc := 188) C (v := -30) (by decide) dL_law_188 ?_
                    refine zz_icmp_ne (pc := 190) C (tgt := 197) dL_law_190 (by decide) (fun hc190 => ?_) (fun hc190 => ?_)
                    · exact absurd rfl hc190
                    · refine zz_iconst (pc := 193) C (v := 1) (by decide) dL_law_193 ?_
                      refine zz_goto (pc := 194) C (tgt := 198) dL_law_194 (by decide) ?_
                      refine zz_istore_n (pc := 198) C dL_law_198 (Nat.le_of_ble_eq_true rfl) ?_
                      refine zV.less (L' := [some (.ref (b)), some (.ref (x)), some (.int (1)), some (.int (k))]) ⟨rfl, rfl, rfl, rfl, trivial⟩ ?_
                      refine zz_iload_n (pc := 199) C dL_law_199 rfl ?_
                      refine zz_if_eq (pc := 200) C (tgt := 340) dL_law_200 (by decide) (fun hc200 => ?_) (fun hc200 => ?_)
                      · exact absurd hc200 (by decide)
                      · refine zz_aload_n (pc := 203) C dL_law_203 rfl ?_
                        refine zz_bipush (pc := 204) C (v := 41) (by decide) dL_law_204 ?_
                        refine zz_bipush (pc := 206) C (v := 9) (by decide) dL_law_206 ?_
                        refine zz_iconst (pc := 208) C (v := 3) (by decide) dL_law_208 ?_
                        have hTH : zE3 (¬ zHere σ 41) (¬ zOkA 9 3) (zNot σ (pn 41)) = 1 := zE3_1 (fun z => absurd z.2.1 (by decide))
                        refine zzx_callSW (pc := 209) C h8 ((c_L_setsAction l hl D (x9 := 41) (s9 := 9) (a9 := 3) hC hW).imp (fun _ _ z => z.elim (fun y => absurd (hTH.symm.trans y.1) (by decide)) (fun z => z.elim id (fun z => z.elim (fun y => absurd (hTH.symm.trans y.1) (by decide)) (fun z => absurd (hTH.symm.trans z.1) (by decide))))) (fun _ z => z)) gL_law_L_setsAction rfl 4 (by decide +kernel) ⟨Nat.le_of_ble_eq_true rfl, Nat.le_of_ble_eq_true rfl⟩ rfl dL_law_209 rfl (Nat.le_of_ble_eq_true rfl) rfl ⟨by show cells + 24 + 5 ≤ 600130; omega, by show slots + 166 + 30 ≤ 7301080; omega⟩ (fun E hE => hE.elim) ?_
                        rintro v G9 ⟨_, rfl, rfl⟩
                        refine zV.widen (k := cells + 29) (n := slots + 196) (by show cells + 24 + 5 ≤ _; omega) (by show slots + 166 + 30 ≤ _; omega) ?_
                        refine zz_bipush (pc := 212) C (v := -30) (by decide) dL_law_212 ?_
                        refine zz_icmp_ne (pc := 214) C (tgt := 340) dL_law_214 (by decide) (fun hc214 => ?_) (fun hc214 => ?_)
                        · exact absurd rfl hc214
                        · refine zz_aload_n (pc := 217) C dL_law_217 rfl ?_
                          refine zz_iconst (pc := 218) C (v := 1) (by decide) dL_law_218 ?_
                          refine zz_bipush (pc := 219) C (v := 9) (by decide) dL_law_219 ?_
                          refine zz_iconst (pc := 221) C (v := 0) (by decide) dL_law_221 ?_
                          have hTH : zE3 (¬ zHere σ 1) (¬ zOkA 9 0) (zNot σ (pn 1)) = 2 := zE3_2 hh1 (fun z => absurd z.2.1 (by decide))
                          refine zzx_callSW (pc := 222) C h8 ((c_L_setsAction l hl D (x9 := 1) (s9 := 9) (a9 := 0) hC hW).imp (fun _ _ z => z.elim (fun y => absurd (hTH.symm.trans y.1) (by decide)) (fun z => z.elim (fun y => absurd (hTH.symm.trans y.1) (by decide)) (fun z => z.elim id (fun z => absurd (hTH.symm.trans z.1) (by decide))))) (fun _ z => z)) gL_law_L_setsAction rfl 4 (by decide +kernel) ⟨Nat.le_of_ble_eq_true rfl, Nat.le_of_ble_eq_true rfl⟩ rfl dL_law_222 rfl (Nat.le_of_ble_eq_true rfl) rfl ⟨by show cells + 29 + 5 ≤ 600130; omega, by show slots + 196 + 30 ≤ 7301080; omega⟩ (fun E hE => hE.elim) ?_
                          rintro v G9 ⟨_, rfl, rfl⟩
                          refine zV.widen (k := cells + 34) (n := slots + 226) (by show cells + 29 + 5 ≤ _; omega) (by show slots + 196 + 30 ≤ _; omega) ?_
                          refine zz_bipush (pc := 225) C (v := -20) (by decide) dL_law_225 ?_
                          refine zz_icmp_ne (pc := 227) C (tgt := 340) dL_law_227 (by decide) (fun hc227 => ?_) (fun hc227 => ?_)
                          · exact absurd rfl hc227
                          · refine zz_aload_n (pc := 230) C dL_law_230 rfl ?_
                            refine zz_iconst (pc := 231) C (v := 1) (by decide) dL_law_231 ?_
                            refine zz_sipush (pc := 232) C (v := 512) (by decide) dL_law_232 ?_
                            have hTH : zE3 (¬ zHere σ 1) ((512 : Int32) < 0 ∨ (511 : Int32) < 512) (zNot σ (pn 1)) = 2 := zE3_2 hh1 (Or.inr (by decide))
                            refine zzx_callSW (pc := 235) C h8 ((c_L_setsMask l hl D (x9 := 1) (c9 := 512) (X := zDel (zMk σ (pn 1) 512, []) (pn 1)) (N := 0) hC hW rfl (fun z => absurd (hTH.symm.trans z) (by decide))).imp (fun _ _ z => z.elim (fun y => absurd (hTH.symm.trans y.1) (by decide)) (fun z => z.elim (fun y => absurd (hTH.symm.trans y.1) (by decide)) (fun z => z.elim id (fun z => absurd (hTH.symm.trans z.1) (by decide))))) (fun _ z => z)) gL_law_L_setsMask rfl 3 (by decide +kernel) ⟨Nat.le_of_ble_eq_true rfl, Nat.le_of_ble_eq_true rfl⟩ rfl dL_law_235 rfl (Nat.le_of_ble_eq_true rfl) rfl ⟨by rw [zRx_z.1]; show cells + 34 + 3 ≤ 600130; omega, by rw [zRx_z.2]; show slots + 226 + 6 * 3 ≤ 7301080; omega⟩ (fun E hE => hE.elim) ?_
                            rintro v G9 ⟨_, rfl, rfl⟩
                            refine zV.widen (k := cells + 37) (n := slots + 244) (by rw [zRx_z.1]; show cells + 34 + 3 ≤ _; omega) (by rw [zRx_z.2]; show slots + 226 + 6 * 3 ≤ _; omega) ?_
                            refine zz_bipush (pc := 238) C (v := -20) (by decide) dL_law_238 ?_
                            refine zz_icmp_ne (pc := 240) C (tgt := 340) dL_law_240 (by decide) (fun hc240 => ?_) (fun hc240 => ?_)
                            · exact absurd rfl hc240
                            · refine zz_aload_n (pc := 243) C dL_law_243 rfl ?_
                              refine zz_iconst (pc := 244) C (v := 1) (by decide) dL_law_244 ?_
                              refine zz_iconst (pc := 245) C (v := 0) (by decide) dL_law_245 ?_
                              have hTH : zE3 (¬ zHere σ 1) ((0 : Int32) < 0 ∨ (511 : Int32) < 0) (zNot σ (pn 1)) = 3 := zE3_3 hh1 (by decide) hn1
                              refine zzx_callSW (pc := 246) C h8 ((c_L_setsMask l hl D (x9 := 1) (c9 := 0) (X := zDel (zMk σ (pn 1) 0, []) (pn 1)) (N := 0) hC hW rfl (fun z => absurd (hTH.symm.trans z) (by decide))).imp (fun _ _ z => z.elim (fun y => absurd (hTH.symm.trans y.1) (by decide)) (fun z => z.elim (fun y => absurd (hTH.symm.trans y.1) (by decide)) (fun z => z.elim (fun y => absurd (hTH.symm.trans y.1) (by decide)) (fun z => z)))) (fun _ z => z)) gL_law_L_setsMask rfl 3 (by decide +kernel) ⟨Nat.le_of_ble_eq_true rfl, Nat.le_of_ble_eq_true rfl⟩ rfl dL_law_246 rfl (Nat.le_of_ble_eq_true rfl) rfl ⟨by rw [zRx_z.1]; show cells + 37 + 3 ≤ 600130; omega, by rw [zRx_z.2]; show slots + 244 + 6 * 3 ≤ 7301080; omega⟩ (fun E hE => hE.elim) ?_
                              rintro v G9 ⟨_, rfl, rfl⟩
                              refine zV.widen (k := cells + 40) (n := slots + 262) (by rw [zRx_z.1]; show cells + 37 + 3 ≤ _; omega) (by rw [zRx_z.2]; show slots + 244 + 6 * 3 ≤ _; omega) ?_
                              refine zz_bipush (pc := 249) C (v := -10) (by decide) dL_law_249 ?_
                              refine zz_icmp_ne (pc := 251) C (tgt := 340) dL_law_251 (by decide) (fun hc251 => ?_) (fun hc251 => ?_)
                              · exact absurd rfl hc251
                              · refine zz_aload_n (pc := 254) C dL_law_254 rfl ?_
                                refine zz_iconst (pc := 255) C (v := 1) (by decide) dL_law_255 ?_
                                have hTH : zE2 (¬ zHere σ 1) (zNot σ (pn 1) ∨ zIsGrp σ 1 41) = 2 := zE2_2 hh1 (Or.inl hn1)
                                refine zzx_callSW (pc := 256) C h8 ((c_L_begins l hl D (x9 := 1) hC).imp (fun _ _ z => z.elim (fun y => absurd (hTH.symm.trans y.1) (by decide)) (fun z => z.elim (fun y => absurd (hTH.symm.trans y.1) (by decide)) (fun z => z))) (fun _ z => z)) gL_law_L_begins rfl 2 (by decide +kernel) ⟨Nat.le_of_ble_eq_true rfl, Nat.le_of_ble_eq_true rfl⟩ rfl dL_law_256 rfl (Nat.le_of_ble_eq_true rfl) rfl ⟨by show cells + 40 + 3 ≤ 600130; omega, by show slots + 262 + 18 ≤ 7301080; omega⟩ (fun E hE => hE.elim) ?_
                                rintro v G9 ⟨_, rfl, rfl⟩
                                refine zV.widen (k := cells + 43) (n := slots + 280) (by show cells + 40 + 3 ≤ _; omega) (by show slots + 262 + 18 ≤ _; omega) ?_
                                refine zz_bipush (pc := 259) C (v := -10) (by decide) dL_law_259 ?_
                                refine zz_icmp_ne (pc := 261) C (tgt := 340) dL_law_261 (by decide) (fun hc261 => ?_) (fun hc261 => ?_)
                                · exact absurd rfl hc261
                                · refine zz_aload_n (pc := 264) C dL_law_264 rfl ?_
                                  refine zz_iconst (pc := 265) C (v := 1) (by decide) dL_law_265 ?_
                                  refine zz_bipush (pc := 266) C (v := 41) (by decide) dL_law_266 ?_
                                  refine zz_iconst (pc := 268) C (v := 0) (by decide) dL_law_268 ?_
                                  have hTH : zE3 (¬ zHere σ 1 ∨ ¬ zHere σ 41) ((0 : Int32) < 1 ∨ (40 : Int32) < 0) (zNot σ (pn 1) ∨ ¬ zPoss σ (pn 1) (pn 41) 0) = 1 := zE3_1 (Or.inr (fun z => absurd z.2.1 (by decide)))
                                  refine zzx_callSW (pc := 269) C h8 ((c_L_setsGroup l hl D (x9 := 1) (t9 := 41) (g9 := 0) hC hW).imp (fun _ _ z => z.elim (fun y => absurd (hTH.symm.trans y.1) (by decide)) (fun z => z.elim id (fun z => z.elim (fun y => absurd (hTH.symm.trans y.1) (by decide)) (fun z => absurd (hTH.symm.trans z.1) (by decide))))) (fun _ z => z)) gL_law_L_setsGroup rfl 4 (by decide +kernel) ⟨Nat.le_of_ble_eq_true rfl, Nat.le_of_ble_eq_true rfl⟩ rfl dL_law_269 rfl (Nat.le_of_ble_eq_true rfl) rfl ⟨by show cells + 43 + 5 ≤ 600130; omega, by show slots + 280 + 30 ≤ 7301080; omega⟩ (fun E hE => hE.elim) ?_
                                  rintro v G9 ⟨_, rfl, rfl⟩
                                  refine zV.widen (k := cells + 48) (n := slots + 310) (by show cells + 43 + 5 ≤ _; omega) (by show slots + 280 + 30 ≤ _; omega) ?_
                                  refine zz_bipush (pc := 272) C (v := -30) (by decide) dL_law_272 ?_
                                  refine zz_icmp_ne (pc := 274) C (tgt := 340) dL_law_274 (by decide) (fun hc274 => ?_) (fun hc274 => ?_)
                                  · exact absurd rfl hc274
                                  · refine zz_aload_n (pc := 277) C dL_law_277 rfl ?_
                                    refine zz_iconst (pc := 278) C (v := 1) (by decide) dL_law_278 ?_
                                    refine zz_iconst (pc := 279) C (v := 1) (by decide) dL_law_279 ?_
                                    refine zz_iconst (pc := 280) C (v := 0) (by decide) dL_law_280 ?_
                                    have hTH : zE3 (¬ zHere σ 1 ∨ ¬ zHere σ 1) ((0 : Int32) < 1 ∨ (40 : Int32) < 0) (zNot σ (pn 1) ∨ ¬ zPoss σ (pn 1) (pn 1) 0) = 2 := zE3_2 (fun z => z.elim hh1 hh1) (Or.inl (by decide))
                                    refine zzx_callSW (pc := 281) C h8 ((c_L_setsGroup l hl D (x9 := 1) (t9 := 1) (g9 := 0) hC hW).imp (fun _ _ z => z.elim (fun y => absurd (hTH.symm.trans y.1) (by decide)) (fun z => z.elim (fun y => absurd (hTH.symm.trans y.1) (by decide)) (fun z => z.elim id (fun z => absurd (hTH.symm.trans z.1) (by decide))))) (fun _ z => z)) gL_law_L_setsGroup rfl 4 (by decide +kernel) ⟨Nat.le_of_ble_eq_true rfl, Nat.le_of_ble_eq_true rfl⟩ rfl dL_law_281 rfl (Nat.le_of_ble_eq_true rfl) rfl ⟨by show cells + 48 + 5 ≤ 600130; omega, by show slots + 310 + 30 ≤ 7301080; omega⟩ (fun E hE => hE.elim) ?_
                                    rintro v G9 ⟨_, rfl, rfl⟩
                                    refine zV.widen (k := cells + 53) (n := slots + 340) (by show cells + 48 + 5 ≤ _; omega) (by show slots + 310 + 30 ≤ _; omega) ?_
                                    refine zz_bipush (pc := 284) C (v := -20) (by decide) dL_law_284 ?_
                                    refine zz_icmp_ne (pc := 286) C (tgt := 340) dL_law_286 (by decide) (fun hc286 => ?_) (fun hc286 => ?_)
                                    · exact absurd rfl hc286
                                    · refine zz_aload_n (pc := 289) C dL_law_289 rfl ?_
                                      refine zz_iconst (pc := 290) C (v := 1) (by decide) dL_law_290 ?_
                                      have hTH : zE2 (¬ zHere σ 1) (zNot σ (pn 1) ∨ σ 3 (pn 1) ≠ 1 ∨ σ 21 0 ≠ -1) = 2 := zE2_2 hh1 (Or.inl hn1)
                                      refine zzx_callSW (pc := 291) C h8 ((c_L_opens l hl D (x9 := 1) hC).imp (fun _ _ z => z.elim (fun y => absurd (hTH.symm.trans y.1) (by decide)) (fun z => z.elim (fun y => absurd (hTH.symm.trans y.1) (by decide)) (fun z => z))) (fun _ z => z)) gL_law_L_opens rfl 2 (by decide +kernel) ⟨Nat.le_of_ble_eq_true rfl, Nat.le_of_ble_eq_true rfl⟩ rfl dL_law_291 rfl (Nat.le_of_ble_eq_true rfl) rfl ⟨by show cells + 53 + 3 ≤ 600130; omega, by show slots + 340 + 18 ≤ 7301080; omega⟩ (fun E hE => hE.elim) ?_
                                      rintro v G9 ⟨_, rfl, rfl⟩
                                      refine zV.widen (k := cells + 56) (n := slots + 358) (by show cells + 53 + 3 ≤ _; omega) (by show slots + 340 + 18 ≤ _; omega) ?_
                                      refine zz_bipush (pc := 294) C (v := -10) (by decide) dL_law_294 ?_
                                      refine zz_icmp_ne (pc := 296) C (tgt := 340) dL_law_296 (by decide) (fun hc296 => ?_) (fun hc296 => ?_)
                                      · exact absurd rfl hc296
                                      · refine zz_aload_n (pc := 299) C dL_law_299 rfl ?_
                                        refine zz_iconst (pc := 300) C (v := 1) (by decide) dL_law_300 ?_
                                        refine zz_bipush (pc := 301) C (v := 41) (by decide) dL_law_301 ?_
                                        have hTH : zE3 (¬ zHere σ 1) ((41 : Int32) < 1 ∨ (40 : Int32) < 41) (zNot σ (pn 1) ∨ σ 3 (pn 1) ≠ σ 21 0 ∨ ¬ zIsIn σ 41 (σ 3 (pn 1)) 41) = 2 := zE3_2 hh1 (Or.inr (by decide))
                                        refine zzx_callSW (pc := 303) C h8 ((c_L_setsForeground l hl D (x9 := 1) (g9 := 41) hC).imp (fun _ _ z => z.elim (fun y => absurd (hTH.symm.trans y.1) (by decide)) (fun z => z.elim (fun y => absurd (hTH.symm.trans y.1) (by decide)) (fun z => z.elim id (fun z => absurd (hTH.symm.trans z.1) (by decide))))) (fun _ z => z)) gL_law_L_setsForeground rfl 3 (by decide +kernel) ⟨Nat.le_of_ble_eq_true rfl, Nat.le_of_ble_eq_true rfl⟩ rfl dL_law_303 rfl (Nat.le_of_ble_eq_true rfl) rfl ⟨by show cells + 56 + 4 ≤ 600130; omega, by show slots + 358 + 24 ≤ 7301080; omega⟩ (fun E hE => hE.elim) ?_
                                        rintro v G9 ⟨_, rfl, rfl⟩
                                        refine zV.widen (k := cells + 60) (n := slots + 382) (by show cells + 56 + 4 ≤ _; omega) (by show slots + 358 + 24 ≤ _; omega) ?_
                                        refine zz_bipush (pc := 306) C (v := -20) (by decide) dL_law_306 ?_
                                        refine zz_icmp_ne (pc := 308) C (tgt := 340) dL_law_308 (by decide) (fun hc308 => ?_) (fun hc308 => ?_)
                                        · exact absurd rfl hc308
                                        · refine zz_aload_n (pc := 311) C dL_law_311 rfl ?_
                                          refine zz_iconst (pc := 312) C (v := 1) (by decide) dL_law_312 ?_
                                          refine zz_bipush (pc := 313) C (v := 9) (by decide) dL_law_313 ?_
                                          have hTH : zE2 (¬ zHere σ 1) ((9 : Int32) < 0 ∨ ¬ (9 : Int32) < 9) = 2 := zE2_2 hh1 (Or.inr (by decide))
                                          refine zzx_callSW (pc := 315) C h8 ((c_L_sends l hl D (x9 := 1) (s9 := 9) (X := (σ, [(pn 9, pn 1)])) (N := 0) hC rfl (fun z => absurd (hTH.symm.trans z) (by decide))).imp (fun _ _ z => z.elim (fun y => absurd (hTH.symm.trans y.1) (by decide)) (fun z => z.elim (fun y => absurd (hTH.symm.trans y.1) (by decide)) (fun z => z))) (fun _ z => z)) gL_law_L_sends rfl 3 (by decide +kernel) ⟨Nat.le_of_ble_eq_true rfl, Nat.le_of_ble_eq_true rfl⟩ rfl dL_law_315 rfl (Nat.le_of_ble_eq_true rfl) rfl ⟨by rw [zRx_z.1]; show cells + 60 + 2 ≤ 600130; omega, by rw [zRx_z.2]; show slots + 382 + 6 * 2 ≤ 7301080; omega⟩ (fun E hE => hE.elim) ?_
                                          rintro v G9 ⟨_, rfl, rfl⟩
                                          refine zV.widen (k := cells + 62) (n := slots + 394) (by rw [zRx_z.1]; show cells + 60 + 2 ≤ _; omega) (by rw [zRx_z.2]; show slots + 382 + 6 * 2 ≤ _; omega) ?_
                                          refine zz_bipush (pc := 318) C (v := -20) (by decide) dL_law_318 ?_
                                          refine zz_icmp_ne (pc := 320) C (tgt := 340) dL_law_320 (by decide) (fun hc320 => ?_) (fun hc320 => ?_)
                                          · exact absurd rfl hc320
                                          · refine zz_aload_n (pc := 323) C dL_law_323 rfl ?_
                                            refine zz_bipush (pc := 324) C (v := 41) (by decide) dL_law_324 ?_
                                            refine zz_bipush (pc := 326) C (v := 9) (by decide) dL_law_326 ?_
                                            have hTH : zE2 (¬ zHere σ 41) ((9 : Int32) < 0 ∨ ¬ (9 : Int32) < 9) = 1 := zE2_1 (fun z => absurd z.2.1 (by decide))
                                            refine zzx_callSW (pc := 328) C h8 ((c_L_sends l hl D (x9 := 41) (s9 := 9) (X := (σ, [(pn 9, pn 41)])) (N := 0) hC rfl (fun z => absurd (hTH.symm.trans z) (by decide))).imp (fun _ _ z => z.elim (fun y => absurd (hTH.symm.trans y.1) (by decide)) (fun z => z.elim id (fun z => absurd (hTH.symm.trans z.1) (by decide)))) (fun _ z => z)) gL_law_L_sends rfl 3 (by decide +kernel) ⟨Nat.le_of_ble_eq_true rfl, Nat.le_of_ble_eq_true rfl⟩ rfl dL_law_328 rfl (Nat.le_of_ble_eq_true rfl) rfl ⟨by rw [zRx_z.1]; show cells + 62 + 2 ≤ 600130; omega, by rw [zRx_z.2]; show slots + 394 + 6 * 2 ≤ 7301080; omega⟩ (fun E hE => hE.elim) ?_
                                            rintro v G9 ⟨_, rfl, rfl⟩
                                            refine zV.widen (k := cells + 64) (n := slots + 406) (by rw [zRx_z.1]; show cells + 62 + 2 ≤ _; omega) (by rw [zRx_z.2]; show slots + 394 + 6 * 2 ≤ _; omega) ?_
                                            refine zz_bipush (pc := 331) C (v := -30) (by decide) dL_law_331 ?_
                                            refine zz_icmp_ne (pc := 333) C (tgt := 340) dL_law_333 (by decide) (fun hc333 => ?_) (fun hc333 => ?_)
                                            · exact absurd rfl hc333
                                            · refine zz_iconst (pc := 336) C (v := 1) (by decide) dL_law_336 ?_
                                              refine zz_goto (pc := 337) C (tgt := 341) dL_law_337 (by decide) ?_
                                              refine zz_istore_n (pc := 341) C dL_law_341 (Nat.le_of_ble_eq_true rfl) ?_
                                              refine zV.less (L' := [some (.ref (b)), some (.ref (x)), some (.int (1)), some (.int (k))]) ⟨rfl, rfl, rfl, rfl, trivial⟩ ?_
                                              refine zz_iload_n (pc := 342) C dL_law_342 rfl ?_
                                              refine zz_if_eq (pc := 343) C (tgt := 357) dL_law_343 (by decide) (fun hc343 => ?_) (fun hc343 => ?_)
                                              · exact absurd hc343 (by decide)
                                              · refine zz_aload_n (pc := 346) C dL_law_346 rfl ?_
                                                refine zz_callS (pc := 347) C (c_L_areAll l D hC hI) gL_law_L_areAll rfl 1 (by decide +kernel) ⟨Nat.le_of_ble_eq_true rfl, Nat.le_of_ble_eq_true rfl⟩ rfl dL_law_347 rfl (Nat.le_of_ble_eq_true rfl) rfl ⟨by show cells + 64 ≤ 600130; omega, by show slots + 406 ≤ 7301080; omega⟩ ?_
                                                rintro v G9 ⟨rfl, rfl⟩
                                                refine zz_if_eq (pc := 350) C (tgt := 357) dL_law_350 (by decide) (fun hc350 => ?_) (fun hc350 => ?_)
                                                · exact absurd hc350 (by decide)
                                                · refine zz_iconst (pc := 353) C (v := 1) (by decide) dL_law_353 ?_
                                                  refine zz_goto (pc := 354) C (tgt := 358) dL_law_354 (by decide) ?_
                                                  intro H locs ls hP hS hG hL
                                                  refine va_forget (fun q hq => hS.2.2 q hq) ?_
                                                  refine W.widen (k := 600130) (n := 7301080) (by show cells + 64 ≤ 600130; omega) (by show slots + 406 ≤ 7301080; omega) ?_
                                                  exact lw_ret C.1.1 C.1.2.1 C.2.2.2.1 C.2.2.2.2 dL_law_358
set_option maxHeartbeats 4000000 in
set_option maxRecDepth 100000 in
theorem lw_loop {p : Program} {l : Launch} {e : Env} {s : State} {m : MethodId} {below : List Frame} {meth : Method} {c : Code} {D : va_G} {b Ln : Nat} {xs : Nat → Int32} (hl : l.stackTraces = false) (K : zLw p s m meth c D b Ln xs) (hLn : Ln ≤ 260) {x : Nat} : ∀ (n k : Nat), k + n = 64 → ∀ (G : zG) (σ : zS) (m0 cells slots : Nat), zLq zB0 x σ m0 G → zIv 0 σ [] → cells ≤ 200 + 20 * k + zK m0 → slots ≤ 10000 + 120 * k + 4 * zK m0 → zV p l e room_1 s m #[Value.ref b] below meth c D (lA s) cells slots (lw_Z below #[Value.ref b] s) G 39 [some (.ref b), some (.ref x), some (.int (1)), some (.int (nI k))] [] := by
  have K' := K
  obtain ⟨C, hX, hbl, h8⟩ := K'
  have hbA : ¬ lA s b := Nat.not_le.mpr hbl
  intro n
  induction n with
  | zero =>
    intro k hk G σ m0 cells slots hq hI hc hs
    obtain ⟨tb, ev, A, hC⟩ := hq
    have z0 := (zK_in m0).2
    have hk64 : k = 64 := by omega
    subst hk64
    refine zz_iload_n (pc := 39) C dL_law_39 rfl ?_
    refine zz_bipush (pc := 40) C (v := 64) (by decide) dL_law_40 ?_
    refine zz_icmp_ge (pc := 42) C (tgt := 86) dL_law_42 (by decide) (fun hc42 => ?_) (fun hc42 => ?_)
    · exact lw_end hl K hC hI (by omega) (by omega) _
    · exact absurd (show (64 : Int32) ≤ nI 64 by decide) hc42
  | succ n ih =>
    intro k hk G σ m0 cells slots hq hI hc hs
    obtain ⟨tb, ev, A, hC⟩ := hq
    have z0 := (zK_in m0).2
    refine zz_iload_n (pc := 39) C dL_law_39 rfl ?_
    refine zz_bipush (pc := 40) C (v := 64) (by decide) dL_law_40 ?_
    refine zz_icmp_ge (pc := 42) C (tgt := 86) dL_law_42 (by decide) (fun hc42 => ?_) (fun hc42 => ?_)
    · exact absurd ((nI_leI (a := 64) (b := k) (by decide) (by omega)).mp hc42) (by omega)
    · refine zz_iload_n (pc := 45) C dL_law_45 rfl ?_
      refine zz_if_eq (pc := 46) C (tgt := 86) dL_law_46 (by decide) (fun hc46 => ?_) (fun hc46 => ?_)
      · exact absurd hc46 (by decide)
      · refine zz_aload_n (pc := 49) C dL_law_49 rfl ?_
        refine zz_aload_n (pc := 50) C dL_law_50 rfl ?_
        refine zz_iconst (pc := 51) C (v := 4) (by decide) dL_law_51 ?_
        refine zz_iload_n (pc := 52) C dL_law_52 rfl ?_
        refine zz_imul (pc := 53) C dL_law_53 ?_
        refine zV.top (z4k k) ?_
        obtain ⟨σ1, m1, hm, hI1, hM⟩ := c_L_isDone (t9 := 4 * k) (b9 := b) (Ln := Ln) (xs := xs) l hl D hC hI (by omega) (by omega)
        have hz := zK_mono hm
        have hz1 := (zK_in m1).2
        refine zs_callS (pc := 54) C h8 hX hbl hbA hM gL_law_L_isDone rfl 3 (by decide +kernel) ⟨Nat.le_of_ble_eq_true rfl, Nat.le_of_ble_eq_true rfl⟩ rfl dL_law_54 rfl (Nat.le_of_ble_eq_true rfl) rfl ⟨by show cells + (20 + (zK m1 - zK m0)) ≤ 600130; omega, by show slots + (120 + 4 * (zK m1 - zK m0)) ≤ 7301080; omega⟩ (fun E hE => hE.elim) ?_
        rintro v G9 ⟨rfl, tb1, ev1, A1, hC1⟩
        refine zz_if_eq (pc := 57) C (tgt := 78) dL_law_57 (by decide) (fun hc57 => ?_) (fun hc57 => ?_)
        · exact absurd hc57 (by decide)
        · refine zz_iload_n (pc := 60) C dL_law_60 rfl ?_
          refine zz_iconst (pc := 61) C (v := 4) (by decide) dL_law_61 ?_
          refine zz_irem (pc := 62) C (a := k) (d := 4) dL_law_62 rfl rfl (by omega) (by decide) (by decide) ?_
          refine zz_iconst (pc := 63) C (v := 3) (by decide) dL_law_63 ?_
          refine zz_icmp_lt (pc := 64) C (tgt := 74) dL_law_64 (by decide) (fun hc64 => ?_) (fun hc64 => ?_)
          · refine zz_iconst (pc := 74) C (v := 1) (by decide) dL_law_74 ?_
            refine zz_goto (pc := 75) C (tgt := 79) dL_law_75 (by decide) ?_
            refine zz_istore_n (pc := 79) C dL_law_79 (Nat.le_of_ble_eq_true rfl) ?_
            refine zV.less (L' := [some (.ref (b)), some (.ref (x)), some (.int (1)), some (.int (nI k))]) ⟨rfl, rfl, rfl, rfl, trivial⟩ ?_
            refine zz_iinc (pc := 80) C dL_law_80 rfl ?_
            refine zV.less (L' := [some (.ref (b)), some (.ref (x)), some (.int (1)), some (.int (nI (k + 1)))]) ⟨rfl, rfl, rfl, zvi (z1i k), trivial⟩ ?_
            refine zz_goto (pc := 83) C (tgt := 39) dL_law_83 (by decide) ?_
            exact zV.less (L' := [some (.ref b), some (.ref x), some (.int (1)), some (.int (nI (k + 1)))]) ⟨rfl, rfl, rfl, rfl, trivial⟩ (ih (k + 1) (by omega) _ σ1 m1 _ _ ⟨tb1, ev1, A1, hC1⟩ hI1 (by show cells + (20 + (zK m1 - zK m0)) ≤ _; omega) (by show slots + (120 + 4 * (zK m1 - zK m0)) ≤ _; omega))
          · refine zz_aload_n (pc := 67) C dL_law_67 rfl ?_
            refine zz_callS (pc := 68) C (c_L_areAll l D hC1 hI1) gL_law_L_areAll rfl 1 (by decide +kernel) ⟨Nat.le_of_ble_eq_true rfl, Nat.le_of_ble_eq_true rfl⟩ rfl dL_law_68 rfl (Nat.le_of_ble_eq_true rfl) rfl ⟨by show cells + (20 + (zK m1 - zK m0)) ≤ 600130; omega, by show slots + (120 + 4 * (zK m1 - zK m0)) ≤ 7301080; omega⟩ ?_
            rintro v G9 ⟨rfl, rfl⟩
            refine zz_if_eq (pc := 71) C (tgt := 78) dL_law_71 (by decide) (fun hc71 => ?_) (fun hc71 => ?_)
            · exact absurd hc71 (by decide)
            · refine zz_iconst (pc := 74) C (v := 1) (by decide) dL_law_74 ?_
              refine zz_goto (pc := 75) C (tgt := 79) dL_law_75 (by decide) ?_
              refine zz_istore_n (pc := 79) C dL_law_79 (Nat.le_of_ble_eq_true rfl) ?_
              refine zV.less (L' := [some (.ref (b)), some (.ref (x)), some (.int (1)), some (.int (nI k))]) ⟨rfl, rfl, rfl, rfl, trivial⟩ ?_
              refine zz_iinc (pc := 80) C dL_law_80 rfl ?_
              refine zV.less (L' := [some (.ref (b)), some (.ref (x)), some (.int (1)), some (.int (nI (k + 1)))]) ⟨rfl, rfl, rfl, zvi (z1i k), trivial⟩ ?_
              refine zz_goto (pc := 83) C (tgt := 39) dL_law_83 (by decide) ?_
              exact zV.less (L' := [some (.ref b), some (.ref x), some (.int (1)), some (.int (nI (k + 1)))]) ⟨rfl, rfl, rfl, rfl, trivial⟩ (ih (k + 1) (by omega) _ σ1 m1 _ _ ⟨tb1, ev1, A1, hC1⟩ hI1 (by show cells + (20 + (zK m1 - zK m0)) ≤ _; omega) (by show slots + (120 + 4 * (zK m1 - zK m0)) ≤ _; omega))
