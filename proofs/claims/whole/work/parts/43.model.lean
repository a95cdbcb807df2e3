/-! the model's 'now' -/
def mkN (m : Mo) (a b c : Nat → Int32) (f s o d : Int32) : Mo := (m.1, m.2.1, m.2.2.1, m.2.2.2.1, m.2.2.2.2.1, m.2.2.2.2.2.1, m.2.2.2.2.2.2.1, m.2.2.2.2.2.2.2.1, m.2.2.2.2.2.2.2.2.1, m.2.2.2.2.2.2.2.2.2.1, m.2.2.2.2.2.2.2.2.2.2.1, m.2.2.2.2.2.2.2.2.2.2.2.1, m.2.2.2.2.2.2.2.2.2.2.2.2.1, m.2.2.2.2.2.2.2.2.2.2.2.2.2.1, a, b, c, f, s, o, d, m.2.2.2.2.2.2.2.2.2.2.2.2.2.2.2.2.2.2.2.2.2.1, m.2.2.2.2.2.2.2.2.2.2.2.2.2.2.2.2.2.2.2.2.2.2.1, m.2.2.2.2.2.2.2.2.2.2.2.2.2.2.2.2.2.2.2.2.2.2.2.1, m.2.2.2.2.2.2.2.2.2.2.2.2.2.2.2.2.2.2.2.2.2.2.2.2.1, m.2.2.2.2.2.2.2.2.2.2.2.2.2.2.2.2.2.2.2.2.2.2.2.2.2.1, m.2.2.2.2.2.2.2.2.2.2.2.2.2.2.2.2.2.2.2.2.2.2.2.2.2.2.1, m.2.2.2.2.2.2.2.2.2.2.2.2.2.2.2.2.2.2.2.2.2.2.2.2.2.2.2.1, m.2.2.2.2.2.2.2.2.2.2.2.2.2.2.2.2.2.2.2.2.2.2.2.2.2.2.2.2.1, m.2.2.2.2.2.2.2.2.2.2.2.2.2.2.2.2.2.2.2.2.2.2.2.2.2.2.2.2.2)
/-- m' differs from m in its 'now' alone -/
def FN (m m' : Mo) : Prop := ∃ (a b c : Nat → Int32) (f s o d : Int32), m' = mkN m a b c f s o d
set_option maxHeartbeats 200000 in
theorem FN.rf {m : Mo} : FN m m := ⟨Mo_shown m, Mo_then m, Mo_keep m, Mo_fogNow m, Mo_snowNow m, Mo_outNow m, Mo_dayNow m, rfl⟩
set_option maxHeartbeats 200000 in
theorem FN.trans {m m' m'' : Mo} (h : FN m m') (h2 : FN m' m'') : FN m m'' := by
  obtain ⟨a, b, c, f, s, o, d, rfl⟩ := h
  obtain ⟨a', b', c', f', s', o', d', rfl⟩ := h2
  exact ⟨a', b', c', f', s', o', d', rfl⟩
set_option maxHeartbeats 200000 in
theorem FN.shown {m m' : Mo} (h : FN m m') (x : Nat → Int32) : FN m (Mo_s_shown m' x) := by
  obtain ⟨a, b, c, f, s, o, d, rfl⟩ := h
  exact ⟨x, b, c, f, s, o, d, rfl⟩
set_option maxHeartbeats 200000 in
theorem FN.then_ {m m' : Mo} (h : FN m m') (x : Nat → Int32) : FN m (Mo_s_then m' x) := by
  obtain ⟨a, b, c, f, s, o, d, rfl⟩ := h
  exact ⟨a, x, c, f, s, o, d, rfl⟩
set_option maxHeartbeats 200000 in
theorem FN.keep {m m' : Mo} (h : FN m m') (x : Nat → Int32) : FN m (Mo_s_keep m' x) := by
  obtain ⟨a, b, c, f, s, o, d, rfl⟩ := h
  exact ⟨a, b, x, f, s, o, d, rfl⟩
set_option maxHeartbeats 200000 in
theorem FN.four {m m' : Mo} (h : FN m m') (x y z u : Int32) : FN m (Mo_s_dayNow (Mo_s_outNow (Mo_s_snowNow (Mo_s_fogNow m' x) y) z) u) := by
  obtain ⟨a, b, c, f, s, o, d, rfl⟩ := h
  exact ⟨a, b, c, x, y, z, u, rfl⟩
set_option maxHeartbeats 200000 in
theorem FN.fog {m m' : Mo} (h : FN m m') (x : Int32) : FN m (Mo_s_fogNow m' x) := by
  obtain ⟨a, b, c, f, s, o, d, rfl⟩ := h
  exact ⟨a, b, c, x, s, o, d, rfl⟩
set_option maxHeartbeats 200000 in
theorem FN.snow {m m' : Mo} (h : FN m m') (x : Int32) : FN m (Mo_s_snowNow m' x) := by
  obtain ⟨a, b, c, f, s, o, d, rfl⟩ := h
  exact ⟨a, b, c, f, x, o, d, rfl⟩
set_option maxHeartbeats 200000 in
theorem FN.out {m m' : Mo} (h : FN m m') (x : Int32) : FN m (Mo_s_outNow m' x) := by
  obtain ⟨a, b, c, f, s, o, d, rfl⟩ := h
  exact ⟨a, b, c, f, s, x, d, rfl⟩
def RMS (m : Mo) (S : Sta) : Prop := aI 4 (Mo_off m) (zoff S) ∧ aI 18 (Mo_dress m) (zds S) ∧ Mo_limit m = nI (zlim S)
def RN (m : Mo) (N : Day) : Prop := aI 3 (Mo_shown m) (zsh N) ∧ aI 27 (Mo_then m) (ztn N) ∧ aI 4 (Mo_keep m) (zkp N) ∧ Mo_fogNow m = nI (zfg N) ∧ Mo_snowNow m = nI (zsn N) ∧ Mo_outNow m = nI (zou N) ∧ Mo_dayNow m = nI (zdy N)
def RP (m : Mo) (D : Day) : Prop := aI 3 (Mo_shownToday m) (zsh D) ∧ aI 27 (Mo_past m) (ztn D) ∧ aI 4 (Mo_keeps m) (zkp D) ∧ Mo_fog m = nI (zfg D) ∧ Mo_snow m = nI (zsn D) ∧ Mo_out m = nI (zou D) ∧ Mo_day m = nI (zdy D)
set_option maxHeartbeats 200000 in
theorem FN.S {m m' : Mo} {S : Sta} (h : FN m m') (hS : RMS m S) : RMS m' S := by
  obtain ⟨a, b, c, f, s, o, d, rfl⟩ := h
  exact hS
set_option maxHeartbeats 200000 in
theorem FN.P {m m' : Mo} {D : Day} (h : FN m m') (hS : RP m D) : RP m' D := by
  obtain ⟨a, b, c, f, s, o, d, rfl⟩ := h
  exact hS
set_option maxHeartbeats 200000 in
theorem pX7_asNow {m : Mo} {D : Day} {Q : Mo → Prop} (hP : RP m D) (h : ∀ m', FN m m' → RN m' D → Q m') : wpX7_asNow m Q := by
  unfold wpX7_asNow
  have k3 : ∀ i, i ≤ 4 → ∃ n, ∀ m', FN m m' → aI 3 (Mo_shown m') (zsh D) → aI 27 (Mo_then m') (ztn D) → aI i (Mo_keep m') (zkp D) → wpX7_asNow_L53 Q n m' (nI i) := by
    refine up_loop 4 (fun n => ?_) (fun n i hi ih => ?_)
    · intro m' hF h1 h2 h3
      show wpX7_asNow_H53 Q _ _ _
      unfold wpX7_asNow_H53
      have hP' := hF.P hP
      refine br_t (nI_le (by decide) (by decide)) (h _ (hF.four _ _ _ _) ⟨h1, h2, h3, hP'.2.2.2.1, hP'.2.2.2.2.1, hP'.2.2.2.2.2.1, hP'.2.2.2.2.2.2⟩)
    · intro m' hF h1 h2 h3
      show wpX7_asNow_H53 Q _ _ _
      unfold wpX7_asNow_H53
      have hP' := hF.P hP
      refine br_f (nI_ge hi (by decide)) ⟨vp_in_nI hi (by decide), vp_in_nI hi (by decide), nm_r (nI_1 i) ?_⟩
      rw [aI_rd hP'.2.2.1 hi]
      refine ih _ (hF.keep _) h1 h2 (fun j hj => ?_)
      show upd (Mo_keep m') (nI i).toNatClampNeg _ j = _
      rw [nI_clamp (show i < 2 ^ 31 by omega)]
      unfold upd
      split
      · rename_i q; rw [q]
      · exact h3 j (by omega)
  have k2 : ∀ i, i ≤ 27 → ∃ n, ∀ m', FN m m' → aI 3 (Mo_shown m') (zsh D) → aI i (Mo_then m') (ztn D) → wpX7_asNow_L27 Q n m' (nI i) := by
    refine up_loop 27 (fun n => ?_) (fun n i hi ih => ?_)
    · intro m' hF h1 h2
      show wpX7_asNow_H27 Q _ _ _
      unfold wpX7_asNow_H27
      obtain ⟨n3, hn3⟩ := k3 0 (by decide)
      exact br_t (nI_le (by decide) (by decide)) ⟨n3, hn3 m' hF h1 h2 (fun j hj => absurd hj (Nat.not_lt_zero j))⟩
    · intro m' hF h1 h2
      show wpX7_asNow_H27 Q _ _ _
      unfold wpX7_asNow_H27
      have hP' := hF.P hP
      refine br_f (nI_ge hi (by decide)) ⟨vp_in_nI hi (by decide), vp_in_nI hi (by decide), nm_r (nI_1 i) ?_⟩
      rw [aI_rd hP'.2.1 hi]
      refine ih _ (hF.then_ _) h1 (fun j hj => ?_)
      show upd (Mo_then m') (nI i).toNatClampNeg _ j = _
      rw [nI_clamp (show i < 2 ^ 31 by omega)]
      unfold upd
      split
      · rename_i q; rw [q]
      · exact h2 j (by omega)
  have k1 : ∀ i, i ≤ 3 → ∃ n, ∀ m', FN m m' → aI i (Mo_shown m') (zsh D) → wpX7_asNow_L2 Q n m' (nI i) := by
    refine up_loop 3 (fun n => ?_) (fun n i hi ih => ?_)
    · intro m' hF h1
      show wpX7_asNow_H2 Q _ _ _
      unfold wpX7_asNow_H2
      obtain ⟨n2, hn2⟩ := k2 0 (by decide)
      exact br_t (nI_le (by decide) (by decide)) ⟨n2, hn2 m' hF h1 (fun j hj => absurd hj (Nat.not_lt_zero j))⟩
    · intro m' hF h1
      show wpX7_asNow_H2 Q _ _ _
      unfold wpX7_asNow_H2
      have hP' := hF.P hP
      refine br_f (nI_ge hi (by decide)) ⟨vp_in_nI hi (by decide), vp_in_nI hi (by decide), nm_r (nI_1 i) ?_⟩
      rw [aI_rd hP'.1 hi]
      refine ih _ (hF.shown _) (fun j hj => ?_)
      show upd (Mo_shown m') (nI i).toNatClampNeg _ j = _
      rw [nI_clamp (show i < 2 ^ 31 by omega)]
      unfold upd
      split
      · rename_i q; rw [q]
      · exact h1 j (by omega)
  obtain ⟨n, hn⟩ := k1 0 (by decide)
  exact ⟨n, hn m FN.rf (fun j hj => absurd hj (Nat.not_lt_zero j))⟩
/-- an empty gorge, its walls as they are -/
def emptyA (D : Day) : Day := (fun _ => 0, fun _ => 0, zkp D, 0, 0, zou D, zdy D)
set_option maxHeartbeats 200000 in
theorem emptyA_WD {D : Day} (h : WD D) : WD (emptyA D) := ⟨fun _ => Nat.zero_le _, fun _ => Nat.zero_le _, h.2.2.1, Nat.zero_le _, Nat.zero_le _, h.2.2.2.2.2.1, h.2.2.2.2.2.2⟩
set_option maxHeartbeats 200000 in
theorem pX7_empty {m : Mo} {D : Day} {Q : Mo → Prop} (hP : RP m D) (h : ∀ m', FN m m' → RN m' (emptyA D) → Q m') : wpX7_empty m Q := by
  unfold wpX7_empty
  refine pX7_asNow hP (fun m1 hF1 hN1 => ?_)
  obtain ⟨-, -, n3, -, -, n6, n7⟩ := hN1
  have k2 : ∀ i, i ≤ 27 → ∃ n, ∀ m', FN m m' → Mo_keep m' = Mo_keep m1 → Mo_outNow m' = Mo_outNow m1 → Mo_dayNow m' = Mo_dayNow m1 → aI 3 (Mo_shown m') (fun _ => 0) → aI i (Mo_then m') (fun _ => 0) → wpX7_empty_L26 Q n m' (nI i) := by
    refine up_loop 27 (fun n => ?_) (fun n i hi ih => ?_)
    · intro m' hF e1 e2 e3 h1 h2
      show wpX7_empty_H26 Q _ _ _
      unfold wpX7_empty_H26
      refine br_t (nI_le (by decide) (by decide)) (h _ ((hF.fog _).snow _) ⟨h1, h2, ?_, rfl, rfl, ?_, ?_⟩)
      · show aI 4 (Mo_keep m') _
        rw [e1]; exact n3
      · show Mo_outNow m' = _
        rw [e2]; exact n6
      · show Mo_dayNow m' = _
        rw [e3]; exact n7
    · intro m' hF e1 e2 e3 h1 h2
      show wpX7_empty_H26 Q _ _ _
      unfold wpX7_empty_H26
      refine br_f (nI_ge hi (by decide)) ⟨vp_in_nI hi (by decide), nm_r (nI_1 i) ?_⟩
      refine ih _ (hF.then_ _) e1 e2 e3 h1 (fun j hj => ?_)
      show upd (Mo_then m') (nI i).toNatClampNeg _ j = _
      rw [nI_clamp (show i < 2 ^ 31 by omega)]
      unfold upd
      split
      · rfl
      · exact h2 j (by omega)
  have k1 : ∀ i, i ≤ 3 → ∃ n, ∀ m', FN m m' → Mo_keep m' = Mo_keep m1 → Mo_outNow m' = Mo_outNow m1 → Mo_dayNow m' = Mo_dayNow m1 → aI i (Mo_shown m') (fun _ => 0) → wpX7_empty_L6 Q n m' (nI i) := by
    refine up_loop 3 (fun n => ?_) (fun n i hi ih => ?_)
    · intro m' hF e1 e2 e3 h1
      show wpX7_empty_H6 Q _ _ _
      unfold wpX7_empty_H6
      obtain ⟨n2, hn2⟩ := k2 0 (by decide)
      exact br_t (nI_le (by decide) (by decide)) ⟨n2, hn2 m' hF e1 e2 e3 h1 (fun j hj => absurd hj (Nat.not_lt_zero j))⟩
    · intro m' hF e1 e2 e3 h1
      show wpX7_empty_H6 Q _ _ _
      unfold wpX7_empty_H6
      refine br_f (nI_ge hi (by decide)) ⟨vp_in_nI hi (by decide), nm_r (nI_1 i) ?_⟩
      refine ih _ (hF.shown _) e1 e2 e3 (fun j hj => ?_)
      show upd (Mo_shown m') (nI i).toNatClampNeg _ j = _
      rw [nI_clamp (show i < 2 ^ 31 by omega)]
      unfold upd
      split
      · rfl
      · exact h1 j (by omega)
  obtain ⟨n, hn⟩ := k1 0 (by decide)
  exact ⟨n, hn m1 hF1 rfl rfl rfl (fun j hj => absurd hj (Nat.not_lt_zero j))⟩
set_option maxHeartbeats 200000 in
theorem pX7_see {m : Mo} {S : Sta} {N : Day} {c : Nat} {Q : Int32 → Mo → Prop} (hM : RMS m S) (hR : RN m N) (hS : WS S) (hD : WD N) (hc : c < 3) (h : Q (nI (seeA (zoff S) N c 0)) m) : wpX7_see m (nI c) Q := by
  obtain ⟨hsh, hp, hkp, hfg, hsn, -, -⟩ := hR
  have hs1 := hD.1 c
  have hf1 := hD.2.2.2.1
  have hf2 := hD.2.2.2.2.1
  have hfin : ∀ s : Nat, s < 1000000 → cap s = seeA (zoff S) N c 0 → wpX7_see_B63 Q m (nI s) := by
    intro s hs e
    unfold wpX7_see_B63
    rw [← e] at h
    refine pk_le s 999 (fun q => ?_) (fun q => ?_)
    · have e : cap s = s := by unfold cap; exact if_pos q
      rw [e] at h; exact h
    · have e : cap s = 999 := by unfold cap; exact if_neg (by omega)
      rw [e] at h; exact h
  unfold wpX7_see
  refine ⟨vp_in_nI hc (by decide), ?_⟩
  rw [aI_rd hsh hc]
  refine nm_e ?_
  by_cases q : zfg N = 0 ∧ zsn N = 0
  · have hw := wsm_le (off := zoff S) (kp := zkp N) (p := fun j => ztn N (9 * c + j)) hD.2.2.1 (fun j => hD.2.1 _)
    have key : ∀ i, i ≤ 4 → ∃ n, wpX7_see_L9 Q n m (nI c) (nI (zsh N c + wsm (zoff S) (zkp N) (fun j => ztn N (9 * c + j)) i)) (nI i) := by
      refine up_loop 4 (fun n => ?_) (fun n i hi ih => ?_)
      · show wpX7_see_H9 Q _ _ _ _ _
        unfold wpX7_see_H9
        have h4 := hw 4
        refine br_t (nI_le (by decide) (by decide)) (hfin _ (by omega) ?_)
        unfold seeA
        rw [if_pos q, Nat.add_zero]
      · show wpX7_see_H9 Q _ _ _ _ _
        unfold wpX7_see_H9
        have ho := hS.1 i
        rw [hfg, hsn, aI_rd hM.1 hi, aI_rd hkp hi, q.1, q.2]
        have e : 9 * nI c + nI (zoff S i) - 1 = nI (9 * c + (zoff S i - 1)) := by
          simp (disch := omega) only [k_0, k_1, k_2, k_3, k_4, k_5, k_6, k_7, k_8, k_9, k_10, k_15, k_16, k_18, k_20, k_26, k_27, k_31, k_33, k_46, k_48, k_49, k_51, k_53, k_57, k_60, k_61, k_63, k_64, k_65, k_70, k_71, k_74, k_75, k_80, k_81, k_82, k_83, k_84, k_85, k_98, k_99, k_100, k_102, k_114, k_115, k_119, k_121, k_126, k_200, k_999, k_1000, k_3000, k_9999, k_65537, k_1000000, k_999999999, k_500, n_mul, n_add, n_sub, n_div]
          first | rfl | (congr 1; omega)
        rw [e, aI_rd hp (by omega)]
        have h1 : zkp N i * ztn N (9 * c + (zoff S i - 1)) ≤ 9 * 999 := Nat.mul_le_mul (hD.2.2.1 _) (hD.2.1 _)
        refine br_f (nI_ge hi (by decide)) (bn_f (by decide) ⟨vp_in_nI hi (by decide), vp_in_nI hi (by decide), vp_in_nI (by omega) (by decide), ?_⟩)
        refine nm_r (e' := nI (zsh N c + wsm (zoff S) (zkp N) (fun j => ztn N (9 * c + j)) (i + 1))) ?_ (nm_r (nI_1 i) ih)
        simp (disch := omega) only [k_0, k_1, k_2, k_3, k_4, k_5, k_6, k_7, k_8, k_9, k_10, k_15, k_16, k_18, k_20, k_26, k_27, k_31, k_33, k_46, k_48, k_49, k_51, k_53, k_57, k_60, k_61, k_63, k_64, k_65, k_70, k_71, k_74, k_75, k_80, k_81, k_82, k_83, k_84, k_85, k_98, k_99, k_100, k_102, k_114, k_115, k_119, k_121, k_126, k_200, k_999, k_1000, k_3000, k_9999, k_65537, k_1000000, k_999999999, k_500, n_mul, n_add, n_sub, n_div]
        rw [Nat.add_assoc]
        show _ = nI (zsh N c + (wsm (zoff S) (zkp N) (fun j => ztn N (9 * c + j)) i + ztn N (9 * c + (zoff S i - 1)) * zkp N i / 10))
        rw [Nat.mul_comm (zkp N i)]
    exact key 0 (by decide)
  · refine ⟨1, ?_⟩
    show wpX7_see_H9 Q _ _ _ _ _
    unfold wpX7_see_H9
    rw [hfg, hsn, n_add]
    refine br_f (by decide) (bn_t ?_ (hfin _ (by omega) ?_))
    · exact nI_ne0 (by omega) (by omega)
    · unfold seeA
      rw [if_neg q, Nat.add_zero]
set_option maxHeartbeats 200000 in
theorem pX7_seeAll {m : Mo} {S : Sta} {N : Day} {Q : Int32 → Mo → Prop} (hM : RMS m S) (hR : RN m N) (hS : WS S) (hD : WD N) (h : Q (nI (seeA (zoff S) N 0 0 + seeA (zoff S) N 1 0 + seeA (zoff S) N 2 0)) m) : wpX7_seeAll m Q := by
  unfold wpX7_seeAll
  refine pX7_see (c := 0) hM hR hS hD (by decide) ?_
  refine pX7_see (c := 1) hM hR hS hD (by decide) ?_
  refine pX7_see (c := 2) hM hR hS hD (by decide) ?_
  rw [n_add, n_add]
  exact h
set_option maxHeartbeats 200000 in
theorem pX7_isOver {m : Mo} {S : Sta} {N : Day} {Q : Int32 → Mo → Prop} (hM : RMS m S) (hR : RN m N) (hS : WS S) (hD : WD N) (h1 : overA (zoff S) (zlim S) N → Q 1 m) (h0 : ¬ overA (zoff S) (zlim S) N → Q 0 m) : wpX7_isOver m Q := by
  have hl : Mo_limit m = nI (zlim S) := hM.2.2
  have hl9 := hS.2.2.1
  have s0 := seeA_le (zoff S) N 0 0
  have s1 := seeA_le (zoff S) N 1 0
  have s2 := seeA_le (zoff S) N 2 0
  unfold wpX7_isOver
  refine pX7_see (c := 0) hM hR hS hD (by decide) ?_
  rw [hl]
  refine pk_lt (zlim S) (seeA (zoff S) N 0 0) (fun q => h1 (Or.inl q)) (fun q0 => ?_)
  refine pX7_see (c := 1) hM hR hS hD (by decide) ?_
  rw [hl]
  refine pk_lt (zlim S) (seeA (zoff S) N 1 0) (fun q => h1 (Or.inr (Or.inl q))) (fun q1 => ?_)
  refine pX7_see (c := 2) hM hR hS hD (by decide) ?_
  rw [hl]
  refine pk_le (seeA (zoff S) N 2 0) (zlim S) (fun q => h0 ?_) (fun q => h1 (Or.inr (Or.inr q)))
  unfold overA
  omega
set_option maxHeartbeats 200000 in
theorem pX7_pass {m : Mo} {S : Sta} {N : Day} {Q : Mo → Prop} (hM : RMS m S) (hR : RN m N) (hS : WS S) (hD : WD N) (h : ∀ m', FN m m' → RN m' (passA (zoff S) N) → Q m') : wpX7_pass m Q := by
  have hsn1 := hD.2.2.2.2.1
  have hsn : Mo_snowNow m = nI (zsn N) := hR.2.2.2.2.1
  unfold wpX7_pass
  refine pX7_see (c := 0) hM hR hS hD (by decide) ?_
  refine pX7_see (c := 1) hM hR hS hD (by decide) ?_
  refine pX7_see (c := 2) hM hR hS hD (by decide) ?_
  obtain ⟨r1, r2, r3, -, -, -, r7⟩ := hR
  have k2 : ∀ i, i ≤ 3 → ∃ n, ∀ m', FN m m' → aI 27 (Mo_then m') (ztn (passA (zoff S) N)) → Mo_keep m' = Mo_keep m → Mo_dayNow m' = Mo_dayNow m → aI i (Mo_shown m') (fun _ => 0) → wpX7_pass_L109 Q n m' (nI i) := by
    refine up_loop 3 (fun n => ?_) (fun n i hi ih => ?_)
    · intro m' hF h1 e1 e2 h2
      show wpX7_pass_H109 Q _ _ _
      unfold wpX7_pass_H109
      refine br_t (nI_le (by decide) (by decide)) (h _ (hF.four _ _ _ _) ⟨h2, h1, ?_, rfl, rfl, rfl, ?_⟩)
      · show aI 4 (Mo_keep m') _
        rw [e1]; exact r3
      · show Mo_dayNow m' + 1 = _
        rw [e2, r7]; exact nI_1 _
    · intro m' hF h1 e1 e2 h2
      show wpX7_pass_H109 Q _ _ _
      unfold wpX7_pass_H109
      refine br_f (nI_ge hi (by decide)) ⟨vp_in_nI hi (by decide), nm_r (nI_1 i) ?_⟩
      refine ih _ (hF.shown _) h1 e1 e2 (fun j hj => ?_)
      show upd (Mo_shown m') (nI i).toNatClampNeg _ j = _
      rw [nI_clamp (show i < 2 ^ 31 by omega)]
      unfold upd
      split
      · rfl
      · exact h2 j (by omega)
  -- the history, from place 26 down
  have k1 : ∀ a, a ≤ 27 → ∀ m', FN m m' → (∀ j, j < 27 → Mo_then m' j = if j < a then nI (ztn N j) else nI (ztn (passA (zoff S) N) j)) → Mo_keep m' = Mo_keep m → Mo_dayNow m' = Mo_dayNow m → Mo_snowNow m' = Mo_snowNow m → wpX7_pass_L22 Q (a + 1) m' (nI (seeA (zoff S) N 0 0)) (nI (seeA (zoff S) N 1 0)) (nI (seeA (zoff S) N 2 0)) (nI a + (-1)) := by
    intro a
    induction a with
    | zero =>
      intro _ m' hF h1 e1 e2 e3
      show wpX7_pass_H22 Q _ _ _ _ _ _
      unfold wpX7_pass_H22
      obtain ⟨n2, hn2⟩ := k2 0 (by decide)
      exact br_t (by decide) ⟨n2, hn2 m' hF (fun j hj => by rw [h1 j hj, if_neg (Nat.not_lt_zero j)]) e1 e2 (fun j hj => absurd hj (Nat.not_lt_zero j))⟩
    | succ a iha =>
      intro ha m' hF h1 e1 e2 e3
      rw [pk_m1 a]
      show wpX7_pass_H22 Q _ _ _ _ _ _
      unfold wpX7_pass_H22
      have em : nI a - nI a / 9 * 9 = nI (a % 9) := by
        simp (disch := omega) only [k_0, k_1, k_2, k_3, k_4, k_5, k_6, k_7, k_8, k_9, k_10, k_15, k_16, k_18, k_20, k_26, k_27, k_31, k_33, k_46, k_48, k_49, k_51, k_53, k_57, k_60, k_61, k_63, k_64, k_65, k_70, k_71, k_74, k_75, k_80, k_81, k_82, k_83, k_84, k_85, k_98, k_99, k_100, k_102, k_114, k_115, k_119, k_121, k_126, k_200, k_999, k_1000, k_3000, k_9999, k_65537, k_1000000, k_999999999, k_500, n_mul, n_add, n_sub, n_div]
        congr 1; omega
      have ed : nI a / 9 = nI (a / 9) := by simp (disch := omega) only [k_0, k_1, k_2, k_3, k_4, k_5, k_6, k_7, k_8, k_9, k_10, k_15, k_16, k_18, k_20, k_26, k_27, k_31, k_33, k_46, k_48, k_49, k_51, k_53, k_57, k_60, k_61, k_63, k_64, k_65, k_70, k_71, k_74, k_75, k_80, k_81, k_82, k_83, k_84, k_85, k_98, k_99, k_100, k_102, k_114, k_115, k_119, k_121, k_126, k_200, k_999, k_1000, k_3000, k_9999, k_65537, k_1000000, k_999999999, k_500, n_mul, n_add, n_sub, n_div]
      have go : ∀ v, v = ztn (passA (zoff S) N) a → wpX7_pass_B99 Q (wpX7_pass_L22 Q (a + 1)) m' (nI (seeA (zoff S) N 0 0)) (nI (seeA (zoff S) N 1 0)) (nI (seeA (zoff S) N 2 0)) (nI a) (nI a) (nI v) := by
        intro v hv
        unfold wpX7_pass_B99
        refine ⟨vp_in_nI (by omega) (by decide), nm_e ?_⟩
        refine iha (by omega) _ (hF.then_ _) (fun j hj => ?_) e1 e2 e3
        show upd (Mo_then m') (nI a).toNatClampNeg (nI v) j = _
        rw [nI_clamp (show a < 2 ^ 31 by omega)]
        unfold upd
        by_cases q : j = a
        · rw [if_pos q, if_neg (by omega), hv, q]
        · rw [if_neg q, h1 j hj]
          by_cases q2 : j < a
          · rw [if_pos (by omega), if_pos q2]
          · rw [if_neg (by omega), if_neg q2]
      have goB : ∀ s0, (a % 9 = 0 → s0 = seeA (zoff S) N (a / 9) 0) → wpX7_pass_B60 Q (wpX7_pass_L22 Q (a + 1)) m' (nI (seeA (zoff S) N 0 0)) (nI (seeA (zoff S) N 1 0)) (nI (seeA (zoff S) N 2 0)) (nI a) (nI (a % 9)) (nI s0) := by
        intro s0 hs0
        unfold wpX7_pass_B60
        refine pk_ne (a % 9) 0 (fun q => ?_) (fun q => ?_)
        · rw [e3, hsn]
          have e5 : nI a - 1 = nI (a - 1) := by simp (disch := omega) only [k_0, k_1, k_2, k_3, k_4, k_5, k_6, k_7, k_8, k_9, k_10, k_15, k_16, k_18, k_20, k_26, k_27, k_31, k_33, k_46, k_48, k_49, k_51, k_53, k_57, k_60, k_61, k_63, k_64, k_65, k_70, k_71, k_74, k_75, k_80, k_81, k_82, k_83, k_84, k_85, k_98, k_99, k_100, k_102, k_114, k_115, k_119, k_121, k_126, k_200, k_999, k_1000, k_3000, k_9999, k_65537, k_1000000, k_999999999, k_500, n_mul, n_add, n_sub, n_div]
          refine pk_ne (zsn N) 1 (fun q2 => ?_) (fun q2 => ?_)
          · rw [e5]
            refine ⟨vp_in_nI (by omega) (by decide), ?_⟩
            rw [nI_clamp (show a - 1 < 2 ^ 31 by omega), h1 (a - 1) (by omega), if_pos (by omega)]
            refine go _ ?_
            show _ = (if a % 9 = 0 then seeA (zoff S) N (a / 9) 0 else if zsn N = 1 then 0 else ztn N (a - 1))
            rw [if_neg q, if_neg q2]
          · refine go 0 ?_
            show _ = (if a % 9 = 0 then seeA (zoff S) N (a / 9) 0 else if zsn N = 1 then 0 else ztn N (a - 1))
            rw [if_neg q, if_pos q2]
        · refine go _ ?_
          show _ = (if a % 9 = 0 then seeA (zoff S) N (a / 9) 0 else if zsn N = 1 then 0 else ztn N (a - 1))
          rw [if_pos q, hs0 q]
      rw [em, ed]
      refine br_f (nI_pos (by omega)) (nm_e ?_)
      refine pk_ne (a / 9) 0 (fun q => ?_) (fun q => goB _ (fun _ => by rw [q]))
      refine pk_ne (a / 9) 1 (fun q2 => goB _ (fun _ => ?_)) (fun q2 => goB _ (fun _ => by rw [q2]))
      rw [show a / 9 = 2 by omega]
  refine ⟨28, ?_⟩
  have e26 : (26 : Int32) = nI 27 + (-1) := by decide
  rw [e26]
  exact k1 27 (by decide) m FN.rf (fun j hj => by rw [if_pos hj]; exact r2 j hj) rfl rfl rfl
/-- d days pass -/
def waitA (off : Nat → Nat) : Nat → Day → Day
  | 0, D => D
  | d + 1, D => passA off (waitA off d D)
set_option maxHeartbeats 200000 in
theorem waitA_dy {off : Nat → Nat} {D : Day} : ∀ d, zdy (waitA off d D) = zdy D + d
  | 0 => rfl
  | d + 1 => by show zdy (waitA off d D) + 1 = _; rw [waitA_dy d]; rfl
set_option maxHeartbeats 200000 in
theorem waitA_WD {off : Nat → Nat} {D : Day} (h : WD D) : ∀ d, zdy D + d ≤ 1000 → WD (waitA off d D)
  | 0, _ => h
  | d + 1, q => passA_WD (waitA_WD h d (by omega)) (by rw [waitA_dy]; omega)
set_option maxHeartbeats 200000 in
theorem pX7_waits {m : Mo} {S : Sta} {N : Day} {d : Nat} {Q : Mo → Prop} (hM : RMS m S) (hR : RN m N) (hS : WS S) (hD : WD N) (hd : d < 1000) (hy : zdy N + d ≤ 1000) (h : ∀ m', FN m m' → RN m' (waitA (zoff S) d N) → Q m') : wpX7_waits m (nI d) Q := by
  unfold wpX7_waits
  have key : ∀ i, i ≤ d → ∃ n, ∀ m', FN m m' → RN m' (waitA (zoff S) i N) → wpX7_waits_L2 Q n m' (nI d) (nI i) := by
    refine up_loop d (fun n => ?_) (fun n i hi ih => ?_)
    · intro m' hF hN
      show wpX7_waits_H2 Q _ _ _ _
      unfold wpX7_waits_H2
      exact br_t (nI_le (Nat.le_refl _) (by omega)) (h m' hF hN)
    · intro m' hF hN
      show wpX7_waits_H2 Q _ _ _ _
      unfold wpX7_waits_H2
      refine br_f (nI_ge hi (by omega)) ?_
      refine pX7_pass (hF.S hM) hN hS (waitA_WD hD i (by omega)) (fun m2 hF2 hN2 => nm_r (nI_1 i) ?_)
      exact ih m2 (hF.trans hF2) hN2
  obtain ⟨n, hn⟩ := key 0 (Nat.zero_le _)
  exact ⟨n, hn m FN.rf hR⟩
set_option maxHeartbeats 200000 in
theorem pX7_wear {m : Mo} {S : Sta} {N : Day} {k : Nat} {Q : Mo → Prop} (hM : RMS m S) (hR : RN m N) (hk : k < 6) (h : ∀ m', FN m m' → RN m' (wearA (zds S) k N) → Q m') : wpX7_wear m (nI k) Q := by
  unfold wpX7_wear
  obtain ⟨r1, r2, r3, r4, r5, r6, r7⟩ := hR
  have key : ∀ i, i ≤ 3 → ∃ n, ∀ m', FN m m' → RN m' ((fun c => if c < i then zsh N c + zds S (3 * k + c) else zsh N c), N.2) → wpX7_wear_L2 Q n m' (nI k) (nI i) := by
    refine up_loop 3 (fun n => ?_) (fun n i hi ih => ?_)
    · intro m' hF hN
      show wpX7_wear_H2 Q _ _ _ _
      unfold wpX7_wear_H2
      obtain ⟨q1, q2⟩ := hN
      exact br_t (nI_le (by decide) (by decide)) (h m' hF ⟨aI_cg q1 (fun j hj => if_pos hj), q2⟩)
    · intro m' hF hN
      show wpX7_wear_H2 Q _ _ _ _
      unfold wpX7_wear_H2
      obtain ⟨q1, q2⟩ := hN
      have e : 3 * nI k + nI i = nI (3 * k + i) := by simp (disch := omega) only [k_0, k_1, k_2, k_3, k_4, k_5, k_6, k_7, k_8, k_9, k_10, k_15, k_16, k_18, k_20, k_26, k_27, k_31, k_33, k_46, k_48, k_49, k_51, k_53, k_57, k_60, k_61, k_63, k_64, k_65, k_70, k_71, k_74, k_75, k_80, k_81, k_82, k_83, k_84, k_85, k_98, k_99, k_100, k_102, k_114, k_115, k_119, k_121, k_126, k_200, k_999, k_1000, k_3000, k_9999, k_65537, k_1000000, k_999999999, k_500, n_mul, n_add, n_sub, n_div]
      have e2 : Mo_shown m' (nI i).toNatClampNeg = nI (zsh N i) := by
        rw [aI_rd q1 hi]
        exact congrArg nI (if_neg (Nat.lt_irrefl i))
      rw [e, e2, aI_rd (hF.S hM).2.1 (by omega), n_add]
      refine br_f (nI_ge hi (by decide)) ⟨vp_in_nI hi (by decide), vp_in_nI (by omega) (by decide), vp_in_nI hi (by decide), nm_r (nI_1 i) ?_⟩
      refine ih _ (hF.shown _) ⟨aI_cg (aI_up q1) (fun j hj => ?_), q2⟩
      show (if j = i then zsh N i + zds S (3 * k + i) else if j < i then zsh N j + zds S (3 * k + j) else zsh N j) = (if j < i + 1 then zsh N j + zds S (3 * k + j) else zsh N j)
      by_cases q : j = i
      · rw [if_pos q, if_pos (by omega), q]
      · rw [if_neg q]
        by_cases q3 : j < i
        · rw [if_pos q3, if_pos (by omega)]
        · rw [if_neg q3, if_neg (by omega)]
  obtain ⟨n, hn⟩ := key 0 (Nat.zero_le _)
  refine ⟨n, hn m FN.rf ⟨aI_cg r1 (fun j hj => ?_), r2, r3, r4, r5, r6, r7⟩⟩
  show _ = (if j < 0 then zsh N j + zds S (3 * k + j) else zsh N j)
  rw [if_neg (Nat.not_lt_zero j)]
