section ZDN
variable {B G : zG} {x tb ev : Nat} {A : Nat → Nat} {σ : zS} {m0 : Nat} {b9 Ln t9 w9 v9 a9 d9 k9 : Nat} {xs : Nat → Int32}
set_option maxHeartbeats 4000000 in
set_option maxRecDepth 100000 in
theorem c_L_isDone (l : Launch) (hl : l.stackTraces = false) (D : va_G) (hC : zCl B x tb ev A σ [] 0 m0 G) (hI : zIv 0 σ []) (hL : Ln < 2 ^ 31) (ht : t9 < 1000) : zDone B x σ m0 D l G b9 Ln t9 xs := by
  obtain ⟨w9, hw, P0⟩ := c_L_part l D (G := G) (b9 := b9) (xs := xs) (k9 := t9) (n9 := 30) hL (by omega) (by decide) (by decide)
  obtain ⟨v9, hv, P1⟩ := c_L_part l D (G := G) (b9 := b9) (xs := xs) (k9 := t9 + 1) (n9 := 4000) hL (by omega) (by decide) (by decide)
  obtain ⟨a9, ha, P2⟩ := c_L_part l D (G := G) (b9 := b9) (xs := xs) (k9 := t9 + 2) (n9 := 5000) hL (by omega) (by decide) (by decide)
  obtain ⟨d9, hd, P3⟩ := c_L_part l D (G := G) (b9 := b9) (xs := xs) (k9 := t9 + 3) (n9 := 6000) hL (by omega) (by decide) (by decide)
  obtain ⟨h1, hk, h0⟩ := zPid_here hI.wf.x0 (n := 40) (k := v9 % 40 + 1) (by omega) (by omega) (fun _ => by omega)
  have hv31 : v9 < 2 ^ 31 := by omega
  by_cases w8 : w9 < 8
  · exact e_fork l hl D hC hI hv31 ha hd P0 P1 P2 P3 rfl h1 hk h0 ⟨by omega, w8⟩
  by_cases w10 : w9 < 10
  · exact e_exit l hl D hC hI hv31 ha hd P0 P1 P2 P3 rfl h1 hk h0 ⟨by omega, w10⟩
  by_cases w13 : w9 < 13
  · exact e_wait l hl D hC hI hv31 ha hd P0 P1 P2 P3 rfl h1 hk h0 ⟨by omega, w13⟩
  by_cases w18 : w9 < 18
  · exact e_sign l hl D hC hI hv31 ha hd P0 P1 P2 P3 rfl h1 hk h0 ⟨by omega, w18⟩
  by_cases w21 : w9 < 21
  · exact e_group l hl D hC hI hv31 ha hd P0 P1 P2 P3 rfl h1 hk h0 ⟨by omega, w21⟩
  by_cases w23 : w9 < 23
  · exact e_begin l hl D hC hI hv31 ha hd P0 P1 P2 P3 rfl h1 hk h0 ⟨by omega, w23⟩
  by_cases w25 : w9 < 25
  · exact e_term l hl D hC hI hv31 ha hd P0 P1 P2 P3 rfl h1 hk h0 ⟨by omega, w25⟩
  · exact e_rest l hl D hC hI hv31 ha hd P0 P1 P2 P3 rfl h1 hk h0 ⟨by omega, hw⟩
end ZDN
