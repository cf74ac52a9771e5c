section ZDN
variable {B G : zG} {x tb ev : Nat} {A : Nat → Nat} {σ : zS} {m0 : Nat} {b9 Ln t9 w9 v9 a9 d9 k9 : Nat} {xs : Nat → Int32}
set_option maxHeartbeats 4000000 in
set_option maxRecDepth 100000 in
theorem e_group (l : Launch) (hl : l.stackTraces = false) (D : va_G) (hC : zCl B x tb ev A σ [] 0 m0 G) (hI : zIv 0 σ []) (hv : v9 < 2 ^ 31) (ha : a9 < 5000) (hd : d9 < 6000) (P0 : zPtt D l G b9 Ln t9 w9 30 xs) (P1 : zPtt D l G b9 Ln (t9 + 1) v9 4000 xs) (P2 : zPtt D l G b9 Ln (t9 + 2) a9 5000 xs) (P3 : zPtt D l G b9 Ln (t9 + 3) d9 6000 xs) (ek : zPid σ 40 (v9 % 40 + 1) = k9) (h1 : 1 ≤ k9) (hk : k9 < 41) (h0 : σ 0 k9 ≠ 0) (hw : 18 ≤ w9 ∧ w9 < 21) : zDone B x σ m0 D l G b9 Ln t9 xs := by
  obtain ⟨u1, u2, u3⟩ := zPid_here hI.wf.x0 (n := 40) (k := d9 % 40 + 1) (by omega) (by omega) (fun _ => by omega)
  have eg : (1 : Int32) + nI (a9 % 41) = nI (a9 % 41 + 1) := (Int32.add_comm _ _).trans (z1a _)
  by_cases g41 : a9 % 41 + 1 = 41
  · exact zDone_0 hI (d_group l hl D hC hI hv ha hd P0 P1 P2 P3 ek hw eg ⟨by decide, by decide⟩ (rm := ({ frames := 12, cells := 20, slots := 120, locals := 340 } : Room)) (Q9 := fun G9 => zLq B x σ m0 G9) (c_L_isGrouped_a l hl D hC hI h1 hk h0 u1 u2 u3 (by omega) g41))
  have g40 : a9 % 41 + 1 < 41 := by omega
  by_cases hb : ¬ zNot σ k9 ∧ zPoss σ k9 (zPid σ 40 (d9 % 40 + 1)) (nI (a9 % 41 + 1))
  · exact zDone_0 (hI.group h0 u3 ⟨by omega, g40⟩ hb.2) (d_group l hl D hC hI hv ha hd P0 P1 P2 P3 ek hw eg ⟨by decide, by decide⟩ (rm := ({ frames := 12, cells := 20, slots := 120, locals := 340 } : Room)) (Q9 := fun G9 => zLq B x (zu σ 2 (zPid σ 40 (d9 % 40 + 1)) (nI (a9 % 41 + 1))) m0 G9) (c_L_isGrouped_y l hl D hC hI h1 hk h0 u1 u2 u3 (by omega) g40 hb))
  · exact zDone_0 hI (d_group l hl D hC hI hv ha hd P0 P1 P2 P3 ek hw eg ⟨by decide, by decide⟩ (rm := ({ frames := 12, cells := 20, slots := 120, locals := 340 } : Room)) (Q9 := fun G9 => zLq B x σ m0 G9) (c_L_isGrouped_n l hl D hC hI h1 hk h0 u1 u2 u3 (by omega) g40 hb))
end ZDN
