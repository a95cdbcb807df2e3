/-! turns: the program's side -/
/-- the memo holds the table for subsets of F up to n -/
def RTb (vt : Gm) (S : Sta) (D : Day) (F n : Nat) : Prop := Gm_whole vt = nI F ∧ ∀ L, L ≤ n → subA L F → Gm_best vt L = (tbA S D F n L).1 ∧ Gm_choice vt L = (tbA S D F n L).2
set_option maxHeartbeats 200000 in
theorem pX2_solveLeft {vt : Gm} {g : Gr} {S : Sta} {D : Day} {F n : Nat} {Q : Gm → Gr → Prop} (hR : RG g S D) (hS : WS S) (hD : WD D) (hF : F < 64) (hn : n + 1 ≤ F) (hsub : subA (n + 1) F) (hT : RTb vt S D F n) (h : ∀ vt', RTb vt' S D F (n + 1) → Q vt' g) : wpX2_solveLeft vt g (nI (n + 1)) Q := by
  unfold wpX2_solveLeft
  rw [nI_clamp (show n + 1 < 2 ^ 31 by omega)]
  refine ⟨vp_in_nI (by omega) (by decide), vp_in_nI (by omega) (by decide), ?_⟩
  have key : ∀ k, k ≤ 6 → ∃ m, ∀ vt2 : Gm, Gm_whole vt2 = nI F → (∀ L, L ≤ n → subA L F → Gm_best vt2 L = (tbA S D F n L).1 ∧ Gm_choice vt2 L = (tbA S D F n L).2) → Gm_best vt2 (n + 1) = (f6A S D F (tbA S D F n) (n + 1) k).1 → Gm_choice vt2 (n + 1) = (f6A S D F (tbA S D F n) (n + 1) k).2 → wpX2_solveLeft_L17 Q m vt2 g (nI (n + 1)) (nI k) := by
    refine up_loop 6 (fun m => ?_) (fun m k hk ih => ?_)
    · intro vt2 y0 y1 y2 y3
      show wpX2_solveLeft_H17 Q _ _ _ _ _
      unfold wpX2_solveLeft_H17
      refine br_t (nI_le (by decide) (by decide)) (h vt2 ⟨y0, fun L hL hs => ?_⟩)
      show _ = (if L = n + 1 then f6A S D F (tbA S D F n) (n + 1) 6 else tbA S D F n L).1 ∧ _ = (if L = n + 1 then f6A S D F (tbA S D F n) (n + 1) 6 else tbA S D F n L).2
      by_cases q : L = n + 1
      · rw [if_pos q, q]; exact ⟨y2, y3⟩
      · rw [if_neg q]; exact y1 L (by omega) hs
    · intro vt2 y0 y1 y2 y3
      show wpX2_solveLeft_H17 Q _ _ _ _ _
      unfold wpX2_solveLeft_H17
      refine br_f (nI_ge hk (by decide)) (pX6_has (by omega) (by omega) (fun q => br_f one_ne ?_) (fun q => br_t rfl ?_))
      · obtain ⟨b1, b2⟩ := bt_1 k hk (n + 1) (by omega) q
        have p2 : 0 < 2 ^ k := Nat.pos_of_ne_zero (by
          rcases (show k = 0 ∨ k = 1 ∨ k = 2 ∨ k = 3 ∨ k = 4 ∨ k = 5 by omega) with rfl | rfl | rfl | rfl | rfl | rfl <;> decide)
        have sl := sub_less (by omega) hk hsub q
        obtain ⟨c1, c2⟩ := bt_3 F hF (n + 1 - 2 ^ k) (by omega) sl
        rw [b1]
        refine nm_e ?_
        rw [y0, c1]
        have fin : ∀ v : Int32, v = caA S D F (tbA S D F n) (n + 1) k → wpX2_solveLeft_B69 Q (wpX2_solveLeft_L17 Q m) vt2 g (nI (n + 1)) (nI k) v := by
          intro v hv
          unfold wpX2_solveLeft_B69
          rw [nI_clamp (show n + 1 < 2 ^ 31 by omega), y2]
          refine ⟨vp_in_nI (by omega) (by decide), ⟨fun w => ?_, fun w => ⟨vp_in_nI (by omega) (by decide), vp_in_nI (by omega) (by decide), ?_⟩⟩⟩
          · have e : f6A S D F (tbA S D F n) (n + 1) (k + 1) = f6A S D F (tbA S D F n) (n + 1) k := if_neg (fun u => u.2 (by rw [← hv]; exact w))
            rw [e] at ih
            exact nm_r (nI_1 k) (ih vt2 y0 y1 y2 y3)
          · have e : f6A S D F (tbA S D F n) (n + 1) (k + 1) = (v, nI k) := by
              rw [hv]
              exact if_pos ⟨q, by rw [← hv]; exact w⟩
            rw [e] at ih
            refine nm_r (nI_1 k) (ih _ y0 (fun L hL hs => ?_) (if_pos rfl) (if_pos rfl))
            have z := y1 L hL hs
            have nl : ¬ L = n + 1 := by omega
            exact ⟨(if_neg nl).trans z.1, (if_neg nl).trans z.2⟩
        refine pX2_loses hR hS hD (by omega) (fun w => br_f one_ne (fin _ ?_)) (fun w => br_t rfl ⟨vp_in_nI (by omega) (by decide), fin _ ?_⟩)
        · unfold caA; rw [if_pos w]
        · unfold caA
          rw [if_neg w, nI_clamp (show n + 1 - 2 ^ k < 2 ^ 31 by omega), (y1 _ (by omega) sl).1]
      · have e : f6A S D F (tbA S D F n) (n + 1) (k + 1) = f6A S D F (tbA S D F n) (n + 1) k := if_neg (fun u => q u.1)
        rw [e] at ih
        exact nm_r (nI_1 k) (ih vt2 y0 y1 y2 y3)
  obtain ⟨m, hm⟩ := key 0 (by decide)
  refine ⟨m, hm _ hT.1 (fun L hL hs => ?_) (if_pos rfl) (if_pos rfl)⟩
  have z := hT.2 L hL hs
  have nl : ¬ L = n + 1 := by omega
  exact ⟨(if_neg nl).trans z.1, (if_neg nl).trans z.2⟩
