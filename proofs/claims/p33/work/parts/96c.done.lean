section ZDN
variable {B G : zG} {x tb ev : Nat} {A : Nat → Nat} {σ : zS} {m0 : Nat} {b9 Ln t9 w9 v9 a9 d9 k9 : Nat} {xs : Nat → Int32}
set_option maxHeartbeats 4000000 in
set_option maxRecDepth 100000 in
theorem e_exit (l : Launch) (hl : l.stackTraces = false) (D : va_G) (hC : zCl B x tb ev A σ [] 0 m0 G) (hI : zIv 0 σ []) (hv : v9 < 2 ^ 31) (ha : a9 < 5000) (hd : d9 < 6000) (P0 : zPtt D l G b9 Ln t9 w9 30 xs) (P1 : zPtt D l G b9 Ln (t9 + 1) v9 4000 xs) (P2 : zPtt D l G b9 Ln (t9 + 2) a9 5000 xs) (P3 : zPtt D l G b9 Ln (t9 + 3) d9 6000 xs) (ek : zPid σ 40 (v9 % 40 + 1) = k9) (h1 : 1 ≤ k9) (hk : k9 < 41) (h0 : σ 0 k9 ≠ 0) (hw : 8 ≤ w9 ∧ w9 < 10) : zDone B x σ m0 D l G b9 Ln t9 xs := by
  by_cases hc9 : a9 % 260 < 256
  · by_cases hn : zNot σ k9
    · exact zDone_0 hI (d_exit l hl D hC hI hv ha hd P0 P1 P2 P3 ek hw ⟨by decide, by decide⟩ (rm := ({ frames := 12, cells := 20, slots := 120, locals := 340 } : Room)) (Q9 := fun G9 => zLq B x σ m0 G9) (c_L_isExited_n l hl D hC hI h1 hk h0 hc9 hn))
    · have hr0 : zReady 8300 (zTerm (σ, []) k9 0 (nI (a9 % 260))) := zReady_term hI.wf h0 (zNr hn).1 (zNr hn).2.1 (Or.inl rfl)
      obtain ⟨X, hX⟩ : ∃ X : zS × List zEv, X = zTerm (σ, []) k9 0 (nI (a9 % 260)) := ⟨_, rfl⟩
      have hr : zReady 8300 X := by rw [hX]; exact hr0
      have z := (zExited hI h0 hn hX (by omega) hr).1
      exact zDone_e (X := X) z (d_exit l hl D hC hI hv ha hd P0 P1 P2 P3 ek hw ⟨(by show (12 : Nat) ≤ 12; omega), (by show (340 : Nat) ≤ 340; omega)⟩ (rm := zRmX 12 340 m0 (zCount 8300 X.1 X.2) 20) (Q9 := fun G9 => zLq B x (zFin 8300 X) (max m0 (zCount 8300 X.1 X.2)) G9) (c_L_isExited_y l hl D hC hI h1 hk h0 hc9 hn hX hr))
  · exact zDone_0 hI (d_exit l hl D hC hI hv ha hd P0 P1 P2 P3 ek hw ⟨by decide, by decide⟩ (rm := ({ frames := 12, cells := 20, slots := 120, locals := 340 } : Room)) (Q9 := fun G9 => zLq B x σ m0 G9) (c_L_isExited_w l hl D hC hI h1 hk h0 (by omega) (Nat.mod_lt _ (by decide))))
end ZDN
