/-! images: kept and restored -/
def FR (m : Mo) (sg : Nat → Nat) (cnt : Nat) (I J : Nat → Int32) : Prop := Mo_signs m = nI cnt ∧ aI 60 (Mo_pad m) sg ∧ Mo_image m = I ∧ Mo_isKept m = J
set_option maxHeartbeats 200000 in
theorem pX7_restore {m : Mo} {S : Sta} {D : Day} {sg : Nat → Nat} {cnt : Nat} {I J : Nat → Int32} {p1 : Int32} {Q : Int32 → Mo → Prop} (Sk : Nat → Sta) (Dk : Nat → Day) (hR : RMo m S D sg cnt I J) (hI : ∀ n, n < 2 → ¬ J n = 0 → RI I (100 * n) (Sk n) (Dk n)) (h0 : ¬ inR p1 0 1 → Q (-2) m) (h3 : ∀ n, n < 2 → p1 = nI n → J n = 0 → Q (-3) m) (h1 : ∀ n m', n < 2 → p1 = nI n → ¬ J n = 0 → RMo m' (Sk n) (Dk n) sg cnt I J → Q 1 m') : wpX7_restore m p1 Q := by
  obtain ⟨-, -, -, -, s3, s4, s5, s6⟩ := hR
  unfold wpX7_restore
  refine ck2X7_in (fun c1 => ?_) (fun c1 => h0 c1)
  obtain ⟨n0, hn0, rfl⟩ := inR_nI (n := 1) (by decide) c1
  rw [s6, nI_clamp (show n0 < 2 ^ 31 by omega)]
  refine ⟨vp_in_nI (by omega) (by decide), bn_c (fun kq => ?_) (fun kq => h3 n0 (by omega) rfl kq)⟩
  have e100 : 100 * nI n0 = nI (100 * n0) := by simp (disch := omega) only [k_0, k_1, k_2, k_3, k_4, k_5, k_6, k_7, k_8, k_9, k_10, k_15, k_16, k_18, k_20, k_26, k_27, k_31, k_33, k_46, k_48, k_49, k_51, k_53, k_57, k_60, k_61, k_63, k_64, k_65, k_70, k_71, k_74, k_75, k_80, k_81, k_82, k_83, k_84, k_85, k_98, k_99, k_100, k_102, k_114, k_115, k_119, k_121, k_126, k_200, k_999, k_1000, k_3000, k_9999, k_65537, k_1000000, k_999999999, k_500, n_mul, n_add, n_sub, n_div]
  rw [e100]
  refine nm_e ?_
  have hX := hI n0 (by omega) kq
  have hq := h1 n0
  generalize Sk n0 = S' at hX hq
  generalize Dk n0 = D' at hX hq
  have hb : 100 * n0 ≤ 100 := by omega
  generalize 100 * n0 = b at hX hb
  have st : ∀ a i : Nat, nI b + nI a + nI i = nI (b + (a + i)) := fun a i => by
    rw [n_add, n_add, Nat.add_assoc]
  have rd : ∀ k, dnF k → I (nI (b + k)).toNatClampNeg = nI (tgA S' D' k) := by
    intro k hk
    rw [nI_clamp (show b + k < 2 ^ 31 by omega)]
    exact hX k hk
  have k5 : ∀ i, i ≤ 3 → ∃ n, ∀ m', FR m' sg cnt I J → aI 4 (Mo_off m') (zoff S') → aI 4 (Mo_keeps m') (zkp D') → aI 18 (Mo_dress m') (zds S') → aI 27 (Mo_past m') (ztn D') → aI 16 (Mo_sight m') (sgt S') → aI i (Mo_shownToday m') (zsh D') → wpX7_restore_L167 Q n m' (nI b) (nI i) := by
    refine up_loop 3 (fun n => ?_) (fun n i hi ih => ?_)
    · intro m' hF a1 a2 a3 a4 a5 a6
      show wpX7_restore_H167 Q _ _ _ _
      unfold wpX7_restore_H167
      have f0 : nI b + 80 = nI (b + 80) := n_add b 80
      have f1 : nI b + 81 = nI (b + 81) := n_add b 81
      have f2 : nI b + 82 = nI (b + 82) := n_add b 82
      have f3 : nI b + 83 = nI (b + 83) := n_add b 83
      have f4 : nI b + 84 = nI (b + 84) := n_add b 84
      have f5 : nI b + 85 = nI (b + 85) := n_add b 85
      rw [f0, f1, f2, f3, f4, f5, hF.2.2.1, rd 80 (by omega), rd 81 (by omega), rd 82 (by omega), rd 83 (by omega), rd 84 (by omega), rd 85 (by omega)]
      exact br_t (nI_le (by decide) (by decide)) ⟨vp_in_nI (by omega) (by decide), vp_in_nI (by omega) (by decide), vp_in_nI (by omega) (by decide), vp_in_nI (by omega) (by decide), vp_in_nI (by omega) (by decide), vp_in_nI (by omega) (by decide), hq _ (by omega) rfl kq ⟨⟨a1, a3, rfl⟩, ⟨a6, a4, a2, rfl, rfl, rfl, rfl⟩, rfl, sgt_to a5, hF.1, hF.2.1, hF.2.2.1, hF.2.2.2⟩⟩
    · intro m' hF a1 a2 a3 a4 a5 a6
      show wpX7_restore_H167 Q _ _ _ _
      unfold wpX7_restore_H167
      have e1 : nI b + 70 + nI i = nI (b + (70 + i)) := st 70 i
      rw [e1, hF.2.2.1, rd _ (by omega)]
      exact br_f (nI_ge hi (by decide)) ⟨vp_in_nI (by omega) (by decide), vp_in_nI hi (by decide), nm_r (nI_1 i) (ih _ hF a1 a2 a3 a4 a5 (aI_st a6 (tg_sh hi) (by omega)))⟩
  have k4 : ∀ i, i ≤ 16 → ∃ n, ∀ m', FR m' sg cnt I J → aI 4 (Mo_off m') (zoff S') → aI 4 (Mo_keeps m') (zkp D') → aI 18 (Mo_dress m') (zds S') → aI 27 (Mo_past m') (ztn D') → aI i (Mo_sight m') (sgt S') → wpX7_restore_L136 Q n m' (nI b) (nI i) := by
    refine up_loop 16 (fun n => ?_) (fun n i hi ih => ?_)
    · intro m' hF a1 a2 a3 a4 a5
      show wpX7_restore_H136 Q _ _ _ _
      unfold wpX7_restore_H136
      obtain ⟨n2, hn2⟩ := k5 0 (by decide)
      exact br_t (nI_le (by decide) (by decide)) ⟨n2, hn2 m' hF a1 a2 a3 a4 a5 (fun j hj => absurd hj (Nat.not_lt_zero j))⟩
    · intro m' hF a1 a2 a3 a4 a5
      show wpX7_restore_H136 Q _ _ _ _
      unfold wpX7_restore_H136
      have e1 : nI b + 53 + nI i = nI (b + (53 + i)) := st 53 i
      rw [e1, hF.2.2.1, rd _ (by omega)]
      exact br_f (nI_ge hi (by decide)) ⟨vp_in_nI (by omega) (by decide), vp_in_nI hi (by decide), nm_r (nI_1 i) (ih _ hF a1 a2 a3 a4 (aI_st a5 (tg_sg hi) (by omega)))⟩
  have k3 : ∀ i, i ≤ 27 → ∃ n, ∀ m', FR m' sg cnt I J → aI 4 (Mo_off m') (zoff S') → aI 4 (Mo_keeps m') (zkp D') → aI 18 (Mo_dress m') (zds S') → aI i (Mo_past m') (ztn D') → wpX7_restore_L105 Q n m' (nI b) (nI i) := by
    refine up_loop 27 (fun n => ?_) (fun n i hi ih => ?_)
    · intro m' hF a1 a2 a3 a4
      show wpX7_restore_H105 Q _ _ _ _
      unfold wpX7_restore_H105
      obtain ⟨n2, hn2⟩ := k4 0 (by decide)
      exact br_t (nI_le (by decide) (by decide)) ⟨n2, hn2 m' hF a1 a2 a3 a4 (fun j hj => absurd hj (Nat.not_lt_zero j))⟩
    · intro m' hF a1 a2 a3 a4
      show wpX7_restore_H105 Q _ _ _ _
      unfold wpX7_restore_H105
      have e1 : nI b + 26 + nI i = nI (b + (26 + i)) := st 26 i
      rw [e1, hF.2.2.1, rd _ (by omega)]
      exact br_f (nI_ge hi (by decide)) ⟨vp_in_nI (by omega) (by decide), vp_in_nI hi (by decide), nm_r (nI_1 i) (ih _ hF a1 a2 a3 (aI_st a4 (tg_tn hi) (by omega)))⟩
  have k2 : ∀ i, i ≤ 18 → ∃ n, ∀ m', FR m' sg cnt I J → aI 4 (Mo_off m') (zoff S') → aI 4 (Mo_keeps m') (zkp D') → aI i (Mo_dress m') (zds S') → wpX7_restore_L74 Q n m' (nI b) (nI i) := by
    refine up_loop 18 (fun n => ?_) (fun n i hi ih => ?_)
    · intro m' hF a1 a2 a3
      show wpX7_restore_H74 Q _ _ _ _
      unfold wpX7_restore_H74
      obtain ⟨n2, hn2⟩ := k3 0 (by decide)
      exact br_t (nI_le (by decide) (by decide)) ⟨n2, hn2 m' hF a1 a2 a3 (fun j hj => absurd hj (Nat.not_lt_zero j))⟩
    · intro m' hF a1 a2 a3
      show wpX7_restore_H74 Q _ _ _ _
      unfold wpX7_restore_H74
      have e1 : nI b + 8 + nI i = nI (b + (8 + i)) := st 8 i
      rw [e1, hF.2.2.1, rd _ (by omega)]
      exact br_f (nI_ge hi (by decide)) ⟨vp_in_nI (by omega) (by decide), vp_in_nI hi (by decide), nm_r (nI_1 i) (ih _ hF a1 a2 (aI_st a3 (tg_ds hi) (by omega)))⟩
  have k1 : ∀ i, i ≤ 4 → ∃ n, ∀ m', FR m' sg cnt I J → aI i (Mo_off m') (zoff S') → aI i (Mo_keeps m') (zkp D') → wpX7_restore_L31 Q n m' (nI b) (nI i) := by
    refine up_loop 4 (fun n => ?_) (fun n i hi ih => ?_)
    · intro m' hF a1 a2
      show wpX7_restore_H31 Q _ _ _ _
      unfold wpX7_restore_H31
      obtain ⟨n2, hn2⟩ := k2 0 (by decide)
      exact br_t (nI_le (by decide) (by decide)) ⟨n2, hn2 m' hF a1 a2 (fun j hj => absurd hj (Nat.not_lt_zero j))⟩
    · intro m' hF a1 a2
      show wpX7_restore_H31 Q _ _ _ _
      unfold wpX7_restore_H31
      have e0 : nI b + nI i = nI (b + i) := n_add _ _
      have e1 : nI b + 4 + nI i = nI (b + (4 + i)) := st 4 i
      rw [e0, e1, hF.2.2.1, rd (4 + i) (by omega), rd i (by omega)]
      exact br_f (nI_ge hi (by decide)) ⟨vp_in_nI (by omega) (by decide), vp_in_nI hi (by decide), vp_in_nI (by omega) (by decide), vp_in_nI hi (by decide), nm_r (nI_1 i) (ih _ hF (aI_st a1 (tg_off hi) (by omega)) (aI_st a2 (tg_kp hi) (by omega)))⟩
  obtain ⟨n, hn⟩ := k1 0 (by decide)
  exact ⟨n, hn m ⟨s3, s4, s5, s6⟩ (fun j hj => absurd hj (Nat.not_lt_zero j)) (fun j hj => absurd hj (Nat.not_lt_zero j))⟩
set_option maxHeartbeats 200000 in
theorem pX6_image {g vi vj : Gr} {vk : Kp} {S : Sta} {D : Day} {p1 : Int32} {Q : Int32 → Gr → Gr → Gr → Kp → Prop} (hR : RG g S D) (hD : WD D) (h0 : ¬ inR p1 0 1 → Q (-2) g vi vj vk) (hA : p1 = nI 0 → ∀ vi', RG vi' S D → Q 1 g vi' vj (upd vk 0 1)) (hB : p1 = nI 1 → ∀ vj', RG vj' S D → Q 1 g vi vj' (upd vk 1 1)) : wpX6_image g vi vj vk p1 Q := by
  unfold wpX6_image
  refine ck2X6_isWithin (fun c1 => ?_) (fun c1 => h0 c1)
  rcases in01 c1 with rfl | rfl
  · exact br_t rfl (pX3_become hR hD (fun vi' h => ⟨vp_in_nI (n := 0) (by decide) (by decide), hA rfl vi' h⟩))
  · exact br_f one_ne (pX3_become hR hD (fun vj' h => ⟨vp_in_nI (n := 1) (by decide) (by decide), hB rfl vj' h⟩))
set_option maxHeartbeats 200000 in
theorem pX6_restore {g vi vj : Gr} {vk : Kp} {p1 : Int32} {Q : Int32 → Gr → Gr → Gr → Kp → Prop} (Sk : Nat → Sta) (Dk : Nat → Day) (hA : ¬ vk 0 = 0 → RG vi (Sk 0) (Dk 0) ∧ WD (Dk 0)) (hB : ¬ vk 1 = 0 → RG vj (Sk 1) (Dk 1) ∧ WD (Dk 1)) (h0 : ¬ inR p1 0 1 → Q (-2) g vi vj vk) (h3 : ∀ n, n < 2 → p1 = nI n → vk n = 0 → Q (-3) g vi vj vk) (h1 : ∀ n g', n < 2 → p1 = nI n → ¬ vk n = 0 → RG g' (Sk n) (Dk n) → Q 1 g' vi vj vk) : wpX6_restore g vi vj vk p1 Q := by
  unfold wpX6_restore
  refine ck2X6_isWithin (fun c1 => ?_) (fun c1 => h0 c1)
  rcases in01 c1 with rfl | rfl
  · refine ⟨vp_in_nI (n := 0) (by decide) (by decide), bn_c (fun q => br_t rfl ?_) (fun q => h3 0 (by decide) rfl q)⟩
    exact pX3_become (hA q).1 (hA q).2 (fun g' h => h1 0 g' (by decide) rfl q h)
  · refine ⟨vp_in_nI (n := 1) (by decide) (by decide), bn_c (fun q => br_f one_ne ?_) (fun q => h3 1 (by decide) rfl q)⟩
    exact pX3_become (hB q).1 (hB q).2 (fun g' h => h1 1 g' (by decide) rfl q h)
