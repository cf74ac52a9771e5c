section ZDN
variable {B G : zG} {x tb ev : Nat} {A : Nat → Nat} {σ : zS} {m0 : Nat} {b9 Ln t9 w9 v9 a9 d9 k9 : Nat} {xs : Nat → Int32}
set_option maxHeartbeats 4000000 in
set_option maxRecDepth 100000 in
theorem e_begin (l : Launch) (hl : l.stackTraces = false) (D : va_G) (hC : zCl B x tb ev A σ [] 0 m0 G) (hI : zIv 0 σ []) (hv : v9 < 2 ^ 31) (ha : a9 < 5000) (hd : d9 < 6000) (P0 : zPtt D l G b9 Ln t9 w9 30 xs) (P1 : zPtt D l G b9 Ln (t9 + 1) v9 4000 xs) (P2 : zPtt D l G b9 Ln (t9 + 2) a9 5000 xs) (P3 : zPtt D l G b9 Ln (t9 + 3) d9 6000 xs) (ek : zPid σ 40 (v9 % 40 + 1) = k9) (h1 : 1 ≤ k9) (hk : k9 < 41) (h0 : σ 0 k9 ≠ 0) (hw : 21 ≤ w9 ∧ w9 < 23) : zDone B x σ m0 D l G b9 Ln t9 xs := by
  by_cases hb : zBI σ k9 41
  · have z := hI.begin h0 (zNr hb.1).1 (fun k k0 e => hb.2 (fun y => y k (hI.wf.in k0).2 ⟨k0, e⟩))
    exact zDone_0 z (d_begin l hl D hC hI hv ha hd P0 P1 P2 P3 ek hw ⟨by decide, by decide⟩ (rm := ({ frames := 12, cells := 20, slots := 120, locals := 340 } : Room)) (Q9 := fun G9 => zLq B x (zu (zu σ 3 k9 (nI k9)) 2 k9 (nI k9)) m0 G9) (c_L_isBegun_y l hl D hC hI h1 hk h0 hb))
  · exact zDone_0 hI (d_begin l hl D hC hI hv ha hd P0 P1 P2 P3 ek hw ⟨by decide, by decide⟩ (rm := ({ frames := 12, cells := 20, slots := 120, locals := 340 } : Room)) (Q9 := fun G9 => zLq B x σ m0 G9) (c_L_isBegun_n l hl D hC hI h1 hk h0 hb))
end ZDN
