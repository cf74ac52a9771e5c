section ZDN
variable {B G : zG} {x tb ev : Nat} {A : Nat → Nat} {σ : zS} {m0 : Nat} {b9 Ln t9 w9 v9 a9 d9 k9 : Nat} {xs : Nat → Int32}
set_option maxHeartbeats 4000000 in
set_option maxRecDepth 100000 in
theorem e_rest (l : Launch) (hl : l.stackTraces = false) (D : va_G) (hC : zCl B x tb ev A σ [] 0 m0 G) (hI : zIv 0 σ []) (hv : v9 < 2 ^ 31) (ha : a9 < 5000) (hd : d9 < 6000) (P0 : zPtt D l G b9 Ln t9 w9 30 xs) (P1 : zPtt D l G b9 Ln (t9 + 1) v9 4000 xs) (P2 : zPtt D l G b9 Ln (t9 + 2) a9 5000 xs) (P3 : zPtt D l G b9 Ln (t9 + 3) d9 6000 xs) (ek : zPid σ 40 (v9 % 40 + 1) = k9) (h1 : 1 ≤ k9) (hk : k9 < 41) (h0 : σ 0 k9 ≠ 0) (hw : 25 ≤ w9 ∧ w9 < 30) : zDone B x σ m0 D l G b9 Ln t9 xs := by
  have hs9 := Nat.mod_lt a9 (show 0 < 9 by decide)
  have hd3 := zI3 (Nat.mod_lt d9 (show 0 < 3 by decide))
  have es : pn (nI (a9 % 9)) = a9 % 9 := nI_clamp (by omega)
  by_cases w25 : w9 = 25
  · by_cases hx : a9 % 9 = 2 ∨ a9 % 9 = 5
    · exact zDone_0 hI (d_act_x l hl D hC hI hv ha hd P0 P1 P2 P3 ek h1 hk h0 w25 hx)
    have n2 : a9 % 9 ≠ 2 := fun z => hx (Or.inl z)
    have n5 : a9 % 9 ≠ 5 := fun z => hx (Or.inr z)
    by_cases hn : zNot σ k9
    · exact zDone_0 hI (d_act_n l hl D hC hI hv ha hd P0 P1 P2 P3 ek h1 hk h0 w25 n2 n5 hn)
    · have z : zIv 0 (zSetA (zSetA σ k9 (nI (a9 % 9)) (nI (d9 % 3))) k9 (nI (a9 % 9)) (nI (d9 % 3))) [] := (hI.setA (by rw [es]; exact hs9) (by rw [es]; exact n2) (by rw [es]; exact n5) hd3).setA (by rw [es]; exact hs9) (by rw [es]; exact n2) (by rw [es]; exact n5) hd3
      exact zDone_0 z (d_act_y l hl D hC hI hv ha hd P0 P1 P2 P3 ek h1 hk h0 w25 n2 n5 hn rfl rfl)
  by_cases w26 : w9 = 26
  · by_cases hx : a9 % 513 = 512
    · exact zDone_0 hI (d_mask_x l hl D hC hI hv ha hd P0 P1 P2 P3 ek h1 hk h0 w26 hx)
    have hs : a9 % 513 < 512 := by omega
    by_cases hn : zNot σ k9
    · exact zDone_0 hI (d_mask_n l hl D hC hI hv ha hd P0 P1 P2 P3 ek h1 hk h0 w26 hs hn)
    · have hp : k9 ≠ 0 ∧ k9 ≠ 1 := ⟨by omega, (zNr hn).1⟩
      have hr0 : zReady 8300 (zDel (zMk σ k9 (nI (a9 % 513)), []) k9) := zReady_del hI.wf.mk (show σ 0 k9 ≠ 0 from h0) hp.2
      obtain ⟨X, hX⟩ : ∃ X : zS × List zEv, X = zDel (zMk σ k9 (nI (a9 % 513)), []) k9 := ⟨_, rfl⟩
      have hr : zReady 8300 X := by rw [hX]; exact hr0
      have z : zIv 0 (zFin 8300 X) [] := (show zIv 0 X.1 X.2 by rw [hX]; exact (hI.mk h0 hp.2 hs).del hp h0).fin hr
      exact zDone_e (X := X) z (d_mask_y l hl D hC hI hv ha hd P0 P1 P2 P3 ek h1 hk h0 w26 hs hn hX hr)
  by_cases w27 : w9 = 27
  · by_cases hn : zNot σ k9
    · exact zDone_0 hI (d_exec_n l hl D hC hI hv ha hd P0 P1 P2 P3 ek h1 hk h0 w27 hn)
    · exact zDone_0 (hI.exec (p := k9)).exec (d_exec_y l hl D hC hI hv ha hd P0 P1 P2 P3 ek h1 hk h0 w27 hn rfl rfl)
  by_cases w28 : w9 = 28
  · by_cases hn : zNot σ k9
    · by_cases hp : a9 % 2 = 0
      · exact zDone_0 hI (d_reap_ne l hl D hC hI hv ha hd P0 P1 P2 P3 ek h1 hk h0 w28 hp hn)
      · exact zDone_0 hI (d_reap_no l hl D hC hI hv ha hd P0 P1 P2 P3 ek h1 hk h0 w28 (by omega) hn)
    · by_cases hp : a9 % 2 = 0
      · exact zDone_0 ((hI.p13 (p := k9) (v := 1) (zNr hn).1 (Or.inr rfl)).p13 (zNr hn).1 (Or.inr rfl)) (d_reap_ye l hl D hC hI hv ha hd P0 P1 P2 P3 ek h1 hk h0 w28 hp hn rfl rfl)
      · exact zDone_0 ((hI.p13 (p := k9) (v := 0) (zNr hn).1 (Or.inl rfl)).p13 (zNr hn).1 (Or.inl rfl)) (d_reap_yo l hl D hC hI hv ha hd P0 P1 P2 P3 ek h1 hk h0 w28 (by omega) hn rfl rfl)
  · have hr0 : zReady 8300 (σ, zSends σ (nI (1 + a9 % 40)) (d9 % 9) 41) := zReady_sends hI.wf (Nat.mod_lt _ (by decide))
    obtain ⟨X, hX⟩ : ∃ X : zS × List zEv, X = (σ, zSends σ (nI (1 + a9 % 40)) (d9 % 9) 41) := ⟨_, rfl⟩
    have hr : zReady 8300 X := by rw [hX]; exact hr0
    exact zDone_e (X := X) ((show zIv 0 X.1 X.2 by rw [hX]; exact hI.queue).fin hr) (d_kill l hl D hC hI hv ha hd P0 P1 P2 P3 ek h1 hk h0 (by omega) hX hr rfl)
end ZDN
