set_option maxHeartbeats 200000 in
theorem RTb_skip {vt : Gm} {S : Sta} {D : Day} {F n : Nat} (h : RTb vt S D F n) (hs : ¬ subA (n + 1) F) : RTb vt S D F (n + 1) := by
  refine ⟨h.1, fun L hL hl => ?_⟩
  have nl : ¬ L = n + 1 := fun q => hs (q ▸ hl)
  have e : tbA S D F (n + 1) L = tbA S D F n L := if_neg nl
  rw [e]
  exact h.2 L (by omega) hl
set_option maxHeartbeats 200000 in
theorem pX2_solve {vt : Gm} {g : Gr} {S : Sta} {D : Day} {F : Nat} {Q : Gm → Gr → Prop} (hR : RG g S D) (hS : WS S) (hD : WD D) (hF : F < 64) (h : ∀ vt', RTb vt' S D F F → Q vt' g) : wpX2_solve vt g (nI F) Q := by
  unfold wpX2_solve
  refine ⟨vp_in_nI (n := 0) (by decide) (by decide), vp_in_nI (n := 0) (by decide) (by decide), ?_⟩
  have key : ∀ n, n ≤ F → ∃ m, ∀ vt2 : Gm, RTb vt2 S D F n → wpX2_solve_L22 Q m vt2 g (nI F) (nI (n + 1)) := by
    refine up_loop F (fun m => ?_) (fun m n hn ih => ?_)
    · intro vt2 y
      show wpX2_solve_H22 Q _ _ _ _ _
      unfold wpX2_solve_H22
      exact br_t (nI_lt (by omega) (by omega)) (h vt2 y)
    · intro vt2 y
      show wpX2_solve_H22 Q _ _ _ _ _
      unfold wpX2_solve_H22
      have b2 := bt_2 F hF (n + 1) (by omega)
      refine br_f (nI_nlt (by omega) (by omega)) (bn_c (fun w => ?_) (fun w => ?_))
      · exact nm_r (nI_1 (n + 1)) (ih vt2 (RTb_skip y (fun q => w (b2.mpr q))))
      · exact pX2_solveLeft hR hS hD hF (by omega) (b2.mp w) y (fun vt3 y3 => nm_r (nI_1 (n + 1)) (ih vt3 y3))
  obtain ⟨m, hm⟩ := key 0 (Nat.zero_le _)
  refine ⟨m, hm _ ⟨rfl, fun L hL _ => ?_⟩⟩
  have e : L = 0 := by omega
  subst e
  exact ⟨rfl, rfl⟩
set_option maxHeartbeats 200000 in
theorem subA_rf (F : Nat) : subA F F := fun _ _ w => w
set_option maxHeartbeats 200000 in
theorem pX6_turns {g : Gr} {vt : Gm} {S : Sta} {D : Day} {p1 p2 : Int32} {Q : Int32 → Gr → Gm → Prop} (hR : RG g S D) (hS : WS S) (hD : WD D) (h : ∀ vt', Q (turnsA S D p1 p2) g vt') : wpX6_turns g vt p1 p2 Q := by
  unfold turnsA at h
  unfold wpX6_turns
  refine ck2X6_isSet (fun c1 => ?_) (fun c1 => ?_)
  · rw [if_pos c1] at h
    refine ck2X6_isWithin (fun c2 => ?_) (fun c2 => ?_)
    · rw [if_pos c2] at h
      obtain ⟨F, hF, rfl⟩ := inR_nI (n := 63) (by decide) c1
      rw [nI_clamp (show F < 2 ^ 31 by omega)] at h
      refine pX2_solve hR hS hD (by omega) (fun vt1 y => ?_)
      have z := y.2 F (Nat.le_refl _) (subA_rf F)
      refine bn_c (fun w => ?_) (fun w => ?_)
      · rw [if_neg w] at h
        unfold wpX2_opening
        rw [y.1, nI_clamp (show F < 2 ^ 31 by omega), z.2]
        exact ⟨vp_in_nI (by omega) (by decide), h vt1⟩
      · rw [if_pos w] at h
        unfold wpX2_winner
        rw [y.1, nI_clamp (show F < 2 ^ 31 by omega), z.1]
        have h' := h vt1
        unfold trA at h'
        refine ⟨vp_in_nI (by omega) (by decide), bn_c (fun u => ⟨vp_in_nI (by omega) (by decide), bn_c (fun t => ?_) (fun t => ?_)⟩) (fun u => ?_)⟩
        · rw [if_neg u, if_neg t] at h'; exact h'
        · rw [if_neg u, if_pos t] at h'; exact h'
        · rw [if_pos u] at h'; exact h'
    · rw [if_neg c2] at h; exact h vt
  · rw [if_neg c1] at h; exact h vt
