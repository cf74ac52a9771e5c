section ZDN
variable {B G : zG} {x tb ev : Nat} {A : Nat → Nat} {σ : zS} {m0 : Nat} {b9 Ln t9 w9 v9 a9 d9 k9 : Nat} {xs : Nat → Int32}
set_option maxHeartbeats 4000000 in
set_option maxRecDepth 100000 in
theorem e_term (l : Launch) (hl : l.stackTraces = false) (D : va_G) (hC : zCl B x tb ev A σ [] 0 m0 G) (hI : zIv 0 σ []) (hv : v9 < 2 ^ 31) (ha : a9 < 5000) (hd : d9 < 6000) (P0 : zPtt D l G b9 Ln t9 w9 30 xs) (P1 : zPtt D l G b9 Ln (t9 + 1) v9 4000 xs) (P2 : zPtt D l G b9 Ln (t9 + 2) a9 5000 xs) (P3 : zPtt D l G b9 Ln (t9 + 3) d9 6000 xs) (ek : zPid σ 40 (v9 % 40 + 1) = k9) (h1 : 1 ≤ k9) (hk : k9 < 41) (h0 : σ 0 k9 ≠ 0) (hw : 23 ≤ w9 ∧ w9 < 25) : zDone B x σ m0 D l G b9 Ln t9 xs := by
  have q0 : ∀ σ' : zS, zIv 0 σ' [] → zxMet D l yL_isTerminal wsL_isTerminal ({ frames := 12, cells := 20, slots := 120, locals := 340 } : Room) [.ref x, .int (nI k9), .int (nI a9), .int (nI d9)] G (fun v G9 => v = some (.int 1) ∧ zLq B x σ' m0 G9) (fun _ => False) → zDone B x σ m0 D l G b9 Ln t9 xs := fun σ' z hM => zDone_0 (σ := σ) z (d_term l hl D hC hI hv ha hd P0 P1 P2 P3 ek hw ⟨by decide, by decide⟩ (rm := ({ frames := 12, cells := 20, slots := 120, locals := 340 } : Room)) (Q9 := fun G9 => zLq B x σ' m0 G9) hM)
  have qe : ∀ X : zS × List zEv, zIv 0 (zFin 8300 X) [] → zxMet D l yL_isTerminal wsL_isTerminal (zRmX 12 340 m0 (zCount 8300 X.1 X.2) 20) [.ref x, .int (nI k9), .int (nI a9), .int (nI d9)] G (fun v G9 => v = some (.int 1) ∧ zLq B x (zFin 8300 X) (max m0 (zCount 8300 X.1 X.2)) G9) (fun _ => False) → zDone B x σ m0 D l G b9 Ln t9 xs := fun X z hM => zDone_e (σ := σ) (X := X) z (d_term l hl D hC hI hv ha hd P0 P1 P2 P3 ek hw ⟨(by show (12 : Nat) ≤ 12; omega), (by show (340 : Nat) ≤ 340; omega)⟩ (Q9 := fun G9 => zLq B x (zFin 8300 X) (max m0 (zCount 8300 X.1 X.2)) G9) (rm := zRmX 12 340 m0 (zCount 8300 X.1 X.2) 20) hM)
  have hm4 := Nat.mod_lt a9 (show 0 < 4 by decide)
  by_cases m2 : a9 % 4 < 2
  · by_cases hc : ¬ zNot σ k9 ∧ σ 3 k9 = nI k9 ∧ σ 21 0 = -1
    · exact q0 _ (hI.openT h0 (zNr hc.1).2.1 hc.2.1) (c_L_isTerminal_oy l hl D hC hI h1 hk h0 ha hd m2 hc)
    · exact q0 _ hI (c_L_isTerminal_on l hl D hC hI h1 hk h0 ha hd m2 hc)
  by_cases m3 : a9 % 4 = 2
  · by_cases g41 : 1 + d9 % 41 = 41
    · exact q0 _ hI (c_L_isTerminal_fa l hl D hC hI h1 hk h0 ha hd m3 rfl g41)
    have g40 : 1 + d9 % 41 < 41 := by omega
    by_cases hc : ¬ zNot σ k9 ∧ σ 3 k9 = σ 21 0 ∧ 1 + d9 % 41 < 41 ∧ zIsIn σ (nI (1 + d9 % 41)) (σ 3 k9) 41
    · exact q0 _ (hI.p22 hc.2.1 h0 ⟨by omega, g40⟩) (c_L_isTerminal_fy l hl D hC hI h1 hk h0 ha hd m3 rfl g40 hc)
    · exact q0 _ hI (c_L_isTerminal_fn l hl D hC hI h1 hk h0 ha hd m3 rfl g40 hc)
  have m4 : a9 % 4 = 3 := by omega
  by_cases m5 : d9 % 5 = 0
  · by_cases ht : σ 21 0 = -1
    · exact q0 _ hI (c_L_isTerminal_hn l hl D hC hI h1 hk h0 ha hd m4 m5 ht)
    · have hr0 : zReady 8300 (zFreeT σ, [(0, pn (σ 21 0))]) := zk_hangUp hI.wf (zE1_0 ht)
      obtain ⟨X, hX⟩ : ∃ X : zS × List zEv, X = (zFreeT σ, [(0, pn (σ 21 0))]) := ⟨_, rfl⟩
      have hr : zReady 8300 X := by rw [hX]; exact hr0
      exact qe X ((show zIv 0 X.1 X.2 by rw [hX]; exact hI.free.queue).fin hr) (c_L_isTerminal_hy l hl D hC hI h1 hk h0 ha hd m4 m5 ht hX hr)
  · by_cases ht : σ 21 0 = -1
    · exact q0 _ hI (c_L_isTerminal_tn l hl D hC hI h1 hk h0 ha hd m4 m5 ht rfl (zSg6 _))
    · have hr0 := zk_type hI.wf (zSg6 (if nI (d9 % 2) = 0 then (1 : Int32) else 0)) (zE1_0 ht)
      generalize hf9 : (if nI (d9 % 2) = 0 then (1 : Int32) else 0) = f9 at hr0
      obtain ⟨X, hX⟩ : ∃ X : zS × List zEv, X = (σ, zSends σ (σ 22 0) (pn (if f9 = 0 then (1 : Int32) else 6)) 41) := ⟨_, rfl⟩
      have hr : zReady 8300 X := by rw [hX]; exact hr0
      exact qe X ((show zIv 0 X.1 X.2 by rw [hX]; exact hI.queue).fin hr) (c_L_isTerminal_ty l hl D hC hI h1 hk h0 ha hd m4 m5 ht hf9.symm (zSg6 f9) hX hr)
end ZDN
