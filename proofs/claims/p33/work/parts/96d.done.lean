section ZDN
variable {B G : zG} {x tb ev : Nat} {A : Nat → Nat} {σ : zS} {m0 : Nat} {b9 Ln t9 w9 v9 a9 d9 k9 : Nat} {xs : Nat → Int32}
set_option maxHeartbeats 4000000 in
set_option maxRecDepth 100000 in
theorem e_wait (l : Launch) (hl : l.stackTraces = false) (D : va_G) (hC : zCl B x tb ev A σ [] 0 m0 G) (hI : zIv 0 σ []) (hv : v9 < 2 ^ 31) (ha : a9 < 5000) (hd : d9 < 6000) (P0 : zPtt D l G b9 Ln t9 w9 30 xs) (P1 : zPtt D l G b9 Ln (t9 + 1) v9 4000 xs) (P2 : zPtt D l G b9 Ln (t9 + 2) a9 5000 xs) (P3 : zPtt D l G b9 Ln (t9 + 3) d9 6000 xs) (ek : zPid σ 40 (v9 % 40 + 1) = k9) (h1 : 1 ≤ k9) (hk : k9 < 41) (h0 : σ 0 k9 ≠ 0) (hw : 10 ≤ w9 ∧ w9 < 13) : zDone B x σ m0 D l G b9 Ln t9 xs := by
  have hf := zF01 (nI (a9 % 2))
  generalize ef : (if nI (a9 % 2) = 0 then (1 : Int32) else 0) = f9 at hf
  by_cases h3 : nI (a9 % 3) = 0
  · have hc : (-1 : Int32) = if nI (a9 % 3) = 0 then (-1 : Int32) else nI (d9 % 42) := (if_pos h3).symm
    by_cases hn : zNot σ k9
    · exact zDone_0 hI (d_wait l hl D hC hI hv ha hd P0 P1 P2 P3 ek hw hc ef.symm ⟨by decide, by decide⟩ (rm := ({ frames := 12, cells := 20, slots := 120, locals := 340 } : Room)) (Q9 := fun G9 => zLq B x σ m0 G9) (c_L_isWaited_na l hl D hC hI h1 hk h0 hf hn))
    · have hr := (zNr hn).2
      have z : zIv 0 (zCheck (zWset σ k9 (-1) f9) k9) [] := hI.waits h0 hr.1 (zNr hn).1 hf
      obtain ⟨τ, hτ⟩ : ∃ τ : zS, zCheck (zWset σ k9 (-1) f9) k9 = τ := ⟨_, rfl⟩
      have q : zxMet D l yL_isWaited wsL_isWaited ({ frames := 12, cells := 20, slots := 120, locals := 340 } : Room) [.ref x, .int (nI k9), .int (-1), .int f9] G (fun v G9 => v = some (.int 1) ∧ zLq B x τ m0 G9) (fun _ => False) → zDone B x σ m0 D l G b9 Ln t9 xs := fun hM => zDone_0 (σ := σ) (hτ ▸ z) (d_wait l hl D hC hI hv ha hd P0 P1 P2 P3 ek hw hc ef.symm ⟨by decide, by decide⟩ (rm := ({ frames := 12, cells := 20, slots := 120, locals := 340 } : Room)) (Q9 := fun G9 => zLq B x τ m0 G9) hM)
      rcases zWaited (f := f9) hI.wf (c := -1) (Or.inl rfl) h0 hk hr with ⟨a, b⟩ | ⟨a, b, c⟩ | ⟨b, b1, b2, b3, b4, b5, b6, b7⟩ | ⟨b, b1, b2, b3, b4, b5, b6, b7, b8, b9', b10⟩
      · exact q (c_L_isWaited_Aa l hl D hC hI h1 hk h0 hf hn a hτ (b.symm.trans hτ))
      · exact q (c_L_isWaited_Ba l hl D hC hI h1 hk h0 hf hn a b hτ (c.symm.trans hτ))
      · exact q (c_L_isWaited_Ca l hl D hC hI h1 hk h0 hf hn b4 (zKd_1 hI.wf hk b5.1) b2 b3 b5 b6 hτ (b7.symm.trans hτ))
      · exact q (c_L_isWaited_Da l hl D hC hI h1 hk h0 hf hn b4 (zKd_1 hI.wf hk b5) b2 b3 b5 b6 b7 b8 b9' hτ (b10.symm.trans hτ))
  · have hc : nI (d9 % 42) = if nI (a9 % 3) = 0 then (-1 : Int32) else nI (d9 % 42) := (if_neg h3).symm
    by_cases hb : d9 % 42 = 0 ∨ d9 % 42 = 41
    · exact zDone_0 hI (d_wait l hl D hC hI hv ha hd P0 P1 P2 P3 ek hw hc ef.symm ⟨by decide, by decide⟩ (rm := ({ frames := 12, cells := 20, slots := 120, locals := 340 } : Room)) (Q9 := fun G9 => zLq B x σ m0 G9) (c_L_isWaited_vf l hl D hC hI h1 hk h0 hf hb))
    have hb1 : 1 ≤ d9 % 42 := by omega
    have hb41 : d9 % 42 < 41 := by omega
    by_cases hn : zNot σ k9
    · exact zDone_0 hI (d_wait l hl D hC hI hv ha hd P0 P1 P2 P3 ek hw hc ef.symm ⟨by decide, by decide⟩ (rm := ({ frames := 12, cells := 20, slots := 120, locals := 340 } : Room)) (Q9 := fun G9 => zLq B x σ m0 G9) (c_L_isWaited_nf l hl D hC hI h1 hk h0 hf hn hb1 hb41))
    · have hr := (zNr hn).2
      have z : zIv 0 (zCheck (zWset σ k9 (nI (d9 % 42)) f9) k9) [] := hI.waits h0 hr.1 (zNr hn).1 hf
      obtain ⟨τ, hτ⟩ : ∃ τ : zS, zCheck (zWset σ k9 (nI (d9 % 42)) f9) k9 = τ := ⟨_, rfl⟩
      have q : zxMet D l yL_isWaited wsL_isWaited ({ frames := 12, cells := 20, slots := 120, locals := 340 } : Room) [.ref x, .int (nI k9), .int (nI (d9 % 42)), .int f9] G (fun v G9 => v = some (.int 1) ∧ zLq B x τ m0 G9) (fun _ => False) → zDone B x σ m0 D l G b9 Ln t9 xs := fun hM => zDone_0 (σ := σ) (hτ ▸ z) (d_wait l hl D hC hI hv ha hd P0 P1 P2 P3 ek hw hc ef.symm ⟨by decide, by decide⟩ (rm := ({ frames := 12, cells := 20, slots := 120, locals := 340 } : Room)) (Q9 := fun G9 => zLq B x τ m0 G9) hM)
      rcases zWaited (f := f9) hI.wf (c := nI (d9 % 42)) (Or.inr ⟨_, by omega, rfl⟩) h0 hk hr with ⟨a, b⟩ | ⟨a, b, c⟩ | ⟨b, b1, b2, b3, b4, b5, b6, b7⟩ | ⟨b, b1, b2, b3, b4, b5, b6, b7, b8, b9', b10⟩
      · exact q (c_L_isWaited_Af l hl D hC hI h1 hk h0 hf hn hb1 hb41 a hτ (b.symm.trans hτ))
      · exact q (c_L_isWaited_Bf l hl D hC hI h1 hk h0 hf hn hb1 hb41 a b hτ (c.symm.trans hτ))
      · exact q (c_L_isWaited_Cf l hl D hC hI h1 hk h0 hf hn hb1 hb41 b4 (zKd_1 hI.wf hk b5.1) b2 b3 b5 b6 hτ (b7.symm.trans hτ))
      · exact q (c_L_isWaited_Df l hl D hC hI h1 hk h0 hf hn hb1 hb41 b4 (zKd_1 hI.wf hk b5) b2 b3 b5 b6 b7 b8 b9' hτ (b10.symm.trans hτ))
end ZDN
