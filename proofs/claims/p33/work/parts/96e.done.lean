section ZDN
variable {B G : zG} {x tb ev : Nat} {A : Nat → Nat} {σ : zS} {m0 : Nat} {b9 Ln t9 w9 v9 a9 d9 k9 : Nat} {xs : Nat → Int32}
set_option maxHeartbeats 4000000 in
set_option maxRecDepth 100000 in
theorem e_sign (l : Launch) (hl : l.stackTraces = false) (D : va_G) (hC : zCl B x tb ev A σ [] 0 m0 G) (hI : zIv 0 σ []) (hv : v9 < 2 ^ 31) (ha : a9 < 5000) (hd : d9 < 6000) (P0 : zPtt D l G b9 Ln t9 w9 30 xs) (P1 : zPtt D l G b9 Ln (t9 + 1) v9 4000 xs) (P2 : zPtt D l G b9 Ln (t9 + 2) a9 5000 xs) (P3 : zPtt D l G b9 Ln (t9 + 3) d9 6000 xs) (ek : zPid σ 40 (v9 % 40 + 1) = k9) (h1 : 1 ≤ k9) (hk : k9 < 41) (h0 : σ 0 k9 ≠ 0) (hw : 13 ≤ w9 ∧ w9 < 18) : zDone B x σ m0 D l G b9 Ln t9 xs := by
  by_cases hs9 : a9 % 10 = 9
  · exact zDone_0 hI (d_sign l hl D hC hI hv ha hd P0 P1 P2 P3 ek hw ⟨by decide, by decide⟩ (rm := ({ frames := 12, cells := 20, slots := 120, locals := 340 } : Room)) (Q9 := fun G9 => zLq B x σ m0 G9) (c_L_isSignalled_w l hl D hC hI h1 hk h0 hs9))
  have hs : a9 % 10 < 9 := by omega
  have hr0 : zReady 8300 (σ, [(a9 % 10, k9)]) := zReady_one hI.wf hs ⟨h1, hk⟩
  obtain ⟨X, hX⟩ : ∃ X : zS × List zEv, X = (σ, [(a9 % 10, k9)]) := ⟨_, rfl⟩
  have hr : zReady 8300 X := by rw [hX]; exact hr0
  have z : zIv 0 (zFin 8300 X) [] := (show zIv 0 X.1 X.2 by rw [hX]; exact hI.queue).fin hr
  have q : zxMet D l yL_isSignalled wsL_isSignalled (zRmX 12 340 m0 (zCount 8300 X.1 X.2) 20) [.ref x, .int (nI k9), .int (nI (a9 % 10))] G (fun v G9 => v = some (.int 1) ∧ zLq B x (zFin 8300 X) (max m0 (zCount 8300 X.1 X.2)) G9) (fun _ => False) → zDone B x σ m0 D l G b9 Ln t9 xs := fun hM => zDone_e (σ := σ) (X := X) z (d_sign l hl D hC hI hv ha hd P0 P1 P2 P3 ek hw ⟨(by show (12 : Nat) ≤ 12; omega), (by show (340 : Nat) ≤ 340; omega)⟩ (Q9 := fun G9 => zLq B x (zFin 8300 X) (max m0 (zCount 8300 X.1 X.2)) G9) (rm := zRmX 12 340 m0 (zCount 8300 X.1 X.2) 20) hM)
  by_cases hz : k9 = 1 ∨ σ 4 k9 ≠ 0
  · exact q (c_L_isSignalled_i l hl D hC hI h1 hk h0 hs hX hr hz)
  have hz2 : k9 ≠ 1 ∧ σ 4 k9 = 0 := ⟨fun y => hz (Or.inl y), Classical.not_not.mp (fun y => hz (Or.inr y))⟩
  by_cases s2 : a9 % 10 = 2
  · exact q (c_L_isSignalled_k l hl D hC hI h1 hk h0 hs hX hr hz2 s2)
  by_cases s5 : a9 % 10 = 5
  · exact q (c_L_isSignalled_s l hl D hC hI h1 hk h0 hs hX hr hz2 s5)
  by_cases s7 : a9 % 10 = 7
  · exact q (c_L_isSignalled_c l hl D hC hI h1 hk h0 hs hX hr hz2 s7)
  · exact q (c_L_isSignalled_o l hl D hC hI h1 hk h0 hs hX hr hz2 s2 s5 s7)
end ZDN
