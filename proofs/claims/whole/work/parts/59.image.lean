/-! images -/
def sgt (S : Sta) : Nat → Nat := fun k => if k % 2 = 0 then zsd S (k / 2) else zsa S (k / 2)
/-- place k of an image -/
def tgA (S : Sta) (D : Day) (k : Nat) : Nat := if k < 4 then zoff S k else if k < 8 then zkp D (k - 4) else if k < 26 then zds S (k - 8) else if k < 53 then ztn D (k - 26) else if k < 69 then sgt S (k - 53) else if k < 73 then zsh D (k - 70) else if k = 80 then zlim S else if k = 81 then zdy D else if k = 82 then zfg D else if k = 83 then zsn D else if k = 84 then zou D else zns S
abbrev dnF (k : Nat) : Prop := k < 69 ∨ (70 ≤ k ∧ k < 73) ∨ (80 ≤ k ∧ k < 86)
def RI (X : Nat → Int32) (b : Nat) (S : Sta) (D : Day) : Prop := ∀ k, dnF k → X (b + k) = nI (tgA S D k)
set_option maxHeartbeats 200000 in
theorem tg_off {S : Sta} {D : Day} {i : Nat} (h : i < 4) : tgA S D i = zoff S i := if_pos h
set_option maxHeartbeats 200000 in
theorem tg_kp {S : Sta} {D : Day} {i : Nat} (h : i < 4) : tgA S D (4 + i) = zkp D i := by
  unfold tgA
  rw [if_neg (by omega), if_pos (by omega), show 4 + i - 4 = i by omega]
set_option maxHeartbeats 200000 in
theorem tg_ds {S : Sta} {D : Day} {i : Nat} (h : i < 18) : tgA S D (8 + i) = zds S i := by
  unfold tgA
  rw [if_neg (by omega), if_neg (by omega), if_pos (by omega), show 8 + i - 8 = i by omega]
set_option maxHeartbeats 200000 in
theorem tg_tn {S : Sta} {D : Day} {i : Nat} (h : i < 27) : tgA S D (26 + i) = ztn D i := by
  unfold tgA
  rw [if_neg (by omega), if_neg (by omega), if_neg (by omega), if_pos (by omega), show 26 + i - 26 = i by omega]
set_option maxHeartbeats 200000 in
theorem tg_sg {S : Sta} {D : Day} {i : Nat} (h : i < 16) : tgA S D (53 + i) = sgt S i := by
  unfold tgA
  rw [if_neg (by omega), if_neg (by omega), if_neg (by omega), if_neg (by omega), if_pos (by omega), show 53 + i - 53 = i by omega]
set_option maxHeartbeats 200000 in
theorem tg_sh {S : Sta} {D : Day} {i : Nat} (h : i < 3) : tgA S D (70 + i) = zsh D i := by
  unfold tgA
  rw [if_neg (by omega), if_neg (by omega), if_neg (by omega), if_neg (by omega), if_neg (by omega), if_pos (by omega), show 70 + i - 70 = i by omega]
set_option maxHeartbeats 200000 in
/-- a sight row is the sights told two by two -/
theorem sgt_of {x : Nat → Int32} {S : Sta} (h : ∀ i, i < 8 → x (2 * i) = nI (zsd S i) ∧ x (2 * i + 1) = nI (zsa S i)) : aI 16 x (sgt S) := by
  intro k hk
  unfold sgt
  have h1 := h (k / 2) (by omega)
  by_cases q : k % 2 = 0
  · rw [if_pos q, show x k = x (2 * (k / 2)) by congr 1; omega]; exact h1.1
  · rw [if_neg q, show x k = x (2 * (k / 2) + 1) by congr 1; omega]; exact h1.2
set_option maxHeartbeats 200000 in
theorem sgt_to {x : Nat → Int32} {S : Sta} (h : aI 16 x (sgt S)) : ∀ i, i < 8 → x (2 * i) = nI (zsd S i) ∧ x (2 * i + 1) = nI (zsa S i) := by
  intro i hi
  have h1 := h (2 * i) (by omega)
  have h2 := h (2 * i + 1) (by omega)
  unfold sgt at h1 h2
  rw [if_pos (by omega), show 2 * i / 2 = i by omega] at h1
  rw [if_neg (by omega), show (2 * i + 1) / 2 = i by omega] at h2
  exact ⟨h1, h2⟩
/-- what is told so far, and nothing outside -/
def PI (S : Sta) (D : Day) (I : Nat → Int32) (b : Nat) (dn : Nat → Prop) (X : Nat → Int32) : Prop := (∀ k, dn k → X (b + k) = nI (tgA S D k)) ∧ ∀ j, j < b ∨ b + 100 ≤ j → X j = I j
set_option maxHeartbeats 200000 in
theorem PI.up {S : Sta} {D : Day} {I X : Nat → Int32} {b k0 v : Nat} {dn dn' : Nat → Prop} (h : PI S D I b dn X) (hb : b ≤ 100) (hk : k0 < 100) (hv : v = tgA S D k0) (hd : ∀ k, dn' k → dn k ∨ k = k0) : PI S D I b dn' (upd X (nI (b + k0)).toNatClampNeg (nI v)) := by
  refine ⟨fun k q => ?_, fun j q => ?_⟩
  · rw [nI_clamp (show b + k0 < 2 ^ 31 by omega)]
    unfold upd
    by_cases e : k = k0
    · rw [if_pos (by omega), hv, e]
    · rw [if_neg (by omega)]
      rcases hd k q with w | w
      · exact h.1 k w
      · exact absurd w e
  · rw [nI_clamp (show b + k0 < 2 ^ 31 by omega)]
    unfold upd
    rw [if_neg (by omega)]
    exact h.2 j q
set_option maxHeartbeats 200000 in
theorem PI.mono {S : Sta} {D : Day} {I X : Nat → Int32} {b : Nat} {dn dn' : Nat → Prop} (h : PI S D I b dn X) (hd : ∀ k, dn' k → dn k) : PI S D I b dn' X := ⟨fun k q => h.1 k (hd k q), h.2⟩
set_option maxHeartbeats 200000 in
theorem pX7_image {m : Mo} {S : Sta} {D : Day} {sg : Nat → Nat} {cnt : Nat} {I J : Nat → Int32} {p1 : Int32} {Q : Int32 → Mo → Prop} (hR : RMo m S D sg cnt I J) (h0 : ¬ inR p1 0 1 → Q (-2) m) (h1 : ∀ n X m', n < 2 → p1 = nI n → RI X (100 * n) S D → (∀ j, j < 100 * n ∨ 100 * n + 100 ≤ j → X j = I j) → RMo m' S D sg cnt X (upd J n 1) → Q 1 m') : wpX7_image m p1 Q := by
  obtain ⟨⟨r1, r2, r3⟩, ⟨q1, q2, q3, q4, q5, q6, q7⟩, s1, s2, s3, s4, s5, s6⟩ := hR
  have hsg := sgt_of s2
  unfold wpX7_image
  refine ck2X7_in (fun c1 => ?_) (fun c1 => h0 c1)
  obtain ⟨n0, hn0, rfl⟩ := inR_nI (n := 1) (by decide) c1
  have e100 : 100 * nI n0 = nI (100 * n0) := by simp (disch := omega) only [k_0, k_1, k_2, k_3, k_4, k_5, k_6, k_7, k_8, k_9, k_10, k_15, k_16, k_18, k_20, k_26, k_27, k_31, k_33, k_46, k_48, k_49, k_51, k_53, k_57, k_60, k_61, k_63, k_64, k_65, k_70, k_71, k_74, k_75, k_80, k_81, k_82, k_83, k_84, k_85, k_98, k_99, k_100, k_102, k_114, k_115, k_119, k_121, k_126, k_200, k_999, k_1000, k_3000, k_9999, k_65537, k_1000000, k_999999999, k_500, n_mul, n_add, n_sub, n_div]
  rw [e100]
  refine nm_e ?_
  generalize hb : 100 * n0 = b
  have hb1 : b ≤ 100 := by omega
  have st : ∀ a i : Nat, nI b + nI a + nI i = nI (b + (a + i)) := fun a i => by
    rw [n_add, n_add, Nat.add_assoc]
  have k5 : ∀ i, i ≤ 3 → ∃ n, ∀ X, PI S D I b (fun k => k < 69 ∨ (70 ≤ k ∧ k < 70 + i)) X → wpX7_image_L155 Q n (Mo_s_image m X) (nI n0) (nI b) (nI i) := by
    refine up_loop 3 (fun n => ?_) (fun n i hi ih => ?_)
    · intro X hX
      show wpX7_image_H155 Q _ _ _ _ _
      unfold wpX7_image_H155
      have f0 : nI b + 80 = nI (b + 80) := n_add b 80
      have f1 : nI b + 81 = nI (b + 81) := n_add b 81
      have f2 : nI b + 82 = nI (b + 82) := n_add b 82
      have f3 : nI b + 83 = nI (b + 83) := n_add b 83
      have f4 : nI b + 84 = nI (b + 84) := n_add b 84
      have f5 : nI b + 85 = nI (b + 85) := n_add b 85
      rw [f0, f1, f2, f3, f4, f5, show Mo_limit (Mo_s_image m X) = nI (zlim S) from r3, show Mo_day (Mo_s_image m X) = nI (zdy D) from q7, show Mo_fog (Mo_s_image m X) = nI (zfg D) from q4, show Mo_snow (Mo_s_image m X) = nI (zsn D) from q5, show Mo_out (Mo_s_image m X) = nI (zou D) from q6, show Mo_sights (Mo_s_image m X) = nI (zns S) from s1]
      refine br_t (nI_le (by decide) (by decide)) ⟨vp_in_nI (by omega) (by decide), vp_in_nI (by omega) (by decide), vp_in_nI (by omega) (by decide), vp_in_nI (by omega) (by decide), vp_in_nI (by omega) (by decide), vp_in_nI (by omega) (by decide), vp_in_nI (by omega) (by decide), ?_⟩
      have p0 := PI.up (k0 := 80) (v := zlim S) (dn' := fun k => k < 69 ∨ (70 ≤ k ∧ k < 73) ∨ k = 80) hX hb1 (by decide) rfl (fun k q => by omega)
      have p1' := PI.up (k0 := 81) (v := zdy D) (dn' := fun k => k < 69 ∨ (70 ≤ k ∧ k < 73) ∨ (80 ≤ k ∧ k < 82)) p0 hb1 (by decide) rfl (fun k q => by omega)
      have p2 := PI.up (k0 := 82) (v := zfg D) (dn' := fun k => k < 69 ∨ (70 ≤ k ∧ k < 73) ∨ (80 ≤ k ∧ k < 83)) p1' hb1 (by decide) rfl (fun k q => by omega)
      have p3 := PI.up (k0 := 83) (v := zsn D) (dn' := fun k => k < 69 ∨ (70 ≤ k ∧ k < 73) ∨ (80 ≤ k ∧ k < 84)) p2 hb1 (by decide) rfl (fun k q => by omega)
      have p4 := PI.up (k0 := 84) (v := zou D) (dn' := fun k => k < 69 ∨ (70 ≤ k ∧ k < 73) ∨ (80 ≤ k ∧ k < 85)) p3 hb1 (by decide) rfl (fun k q => by omega)
      have p5 := PI.up (k0 := 85) (v := zns S) (dn' := dnF) p4 hb1 (by decide) rfl (fun k q => by omega)
      refine h1 n0 _ _ (by omega) rfl (by rw [hb]; exact p5.1) (by rw [hb]; exact p5.2) ⟨⟨r1, r2, r3⟩, ⟨q1, q2, q3, q4, q5, q6, q7⟩, s1, s2, s3, s4, rfl, ?_⟩
      show upd (Mo_isKept m) (nI n0).toNatClampNeg 1 = _
      rw [nI_clamp (show n0 < 2 ^ 31 by omega), s6]
    · intro X hX
      show wpX7_image_H155 Q _ _ _ _ _
      unfold wpX7_image_H155
      have e1 : nI b + 70 + nI i = nI (b + (70 + i)) := st 70 i
      rw [e1, show Mo_shownToday (Mo_s_image m X) (nI i).toNatClampNeg = nI (zsh D i) from aI_rd q1 hi]
      exact br_f (nI_ge hi (by decide)) ⟨vp_in_nI hi (by decide), vp_in_nI (by omega) (by decide), nm_r (nI_1 i) (ih _ (PI.up hX hb1 (by omega) (tg_sh hi).symm (fun k q => by omega)))⟩
  have k4 : ∀ i, i ≤ 16 → ∃ n, ∀ X, PI S D I b (fun k => k < 53 + i) X → wpX7_image_L124 Q n (Mo_s_image m X) (nI n0) (nI b) (nI i) := by
    refine up_loop 16 (fun n => ?_) (fun n i hi ih => ?_)
    · intro X hX
      show wpX7_image_H124 Q _ _ _ _ _
      unfold wpX7_image_H124
      obtain ⟨n2, hn2⟩ := k5 0 (by decide)
      exact br_t (nI_le (by decide) (by decide)) ⟨n2, hn2 X (hX.mono (fun k q => by omega))⟩
    · intro X hX
      show wpX7_image_H124 Q _ _ _ _ _
      unfold wpX7_image_H124
      have e1 : nI b + 53 + nI i = nI (b + (53 + i)) := st 53 i
      rw [e1, show Mo_sight (Mo_s_image m X) (nI i).toNatClampNeg = nI (sgt S i) from aI_rd hsg hi]
      exact br_f (nI_ge hi (by decide)) ⟨vp_in_nI hi (by decide), vp_in_nI (by omega) (by decide), nm_r (nI_1 i) (ih _ (PI.up hX hb1 (by omega) (tg_sg hi).symm (fun k q => by omega)))⟩
  have k3 : ∀ i, i ≤ 27 → ∃ n, ∀ X, PI S D I b (fun k => k < 26 + i) X → wpX7_image_L93 Q n (Mo_s_image m X) (nI n0) (nI b) (nI i) := by
    refine up_loop 27 (fun n => ?_) (fun n i hi ih => ?_)
    · intro X hX
      show wpX7_image_H93 Q _ _ _ _ _
      unfold wpX7_image_H93
      obtain ⟨n2, hn2⟩ := k4 0 (by decide)
      exact br_t (nI_le (by decide) (by decide)) ⟨n2, hn2 X (hX.mono (fun k q => by omega))⟩
    · intro X hX
      show wpX7_image_H93 Q _ _ _ _ _
      unfold wpX7_image_H93
      have e1 : nI b + 26 + nI i = nI (b + (26 + i)) := st 26 i
      rw [e1, show Mo_past (Mo_s_image m X) (nI i).toNatClampNeg = nI (ztn D i) from aI_rd q2 hi]
      exact br_f (nI_ge hi (by decide)) ⟨vp_in_nI hi (by decide), vp_in_nI (by omega) (by decide), nm_r (nI_1 i) (ih _ (PI.up hX hb1 (by omega) (tg_tn hi).symm (fun k q => by omega)))⟩
  have k2 : ∀ i, i ≤ 18 → ∃ n, ∀ X, PI S D I b (fun k => k < 8 + i) X → wpX7_image_L62 Q n (Mo_s_image m X) (nI n0) (nI b) (nI i) := by
    refine up_loop 18 (fun n => ?_) (fun n i hi ih => ?_)
    · intro X hX
      show wpX7_image_H62 Q _ _ _ _ _
      unfold wpX7_image_H62
      obtain ⟨n2, hn2⟩ := k3 0 (by decide)
      exact br_t (nI_le (by decide) (by decide)) ⟨n2, hn2 X (hX.mono (fun k q => by omega))⟩
    · intro X hX
      show wpX7_image_H62 Q _ _ _ _ _
      unfold wpX7_image_H62
      have e1 : nI b + 8 + nI i = nI (b + (8 + i)) := st 8 i
      rw [e1, show Mo_dress (Mo_s_image m X) (nI i).toNatClampNeg = nI (zds S i) from aI_rd r2 hi]
      exact br_f (nI_ge hi (by decide)) ⟨vp_in_nI hi (by decide), vp_in_nI (by omega) (by decide), nm_r (nI_1 i) (ih _ (PI.up hX hb1 (by omega) (tg_ds hi).symm (fun k q => by omega)))⟩
  have k1 : ∀ i, i ≤ 4 → ∃ n, ∀ X, PI S D I b (fun k => k < i ∨ (4 ≤ k ∧ k < 4 + i)) X → wpX7_image_L19 Q n (Mo_s_image m X) (nI n0) (nI b) (nI i) := by
    refine up_loop 4 (fun n => ?_) (fun n i hi ih => ?_)
    · intro X hX
      show wpX7_image_H19 Q _ _ _ _ _
      unfold wpX7_image_H19
      obtain ⟨n2, hn2⟩ := k2 0 (by decide)
      exact br_t (nI_le (by decide) (by decide)) ⟨n2, hn2 X (hX.mono (fun k q => by omega))⟩
    · intro X hX
      show wpX7_image_H19 Q _ _ _ _ _
      unfold wpX7_image_H19
      have e0 : nI b + nI i = nI (b + i) := n_add _ _
      have e1 : nI b + 4 + nI i = nI (b + (4 + i)) := st 4 i
      rw [e0, e1, show Mo_off (Mo_s_image m X) (nI i).toNatClampNeg = nI (zoff S i) from aI_rd r1 hi, show Mo_keeps (Mo_s_image m X) (nI i).toNatClampNeg = nI (zkp D i) from aI_rd q3 hi]
      have p0 := PI.up (k0 := i) (v := zoff S i) (dn' := fun k => k < i + 1 ∨ (4 ≤ k ∧ k < 4 + i)) hX hb1 (by omega) (tg_off hi).symm (fun k q => by omega)
      exact br_f (nI_ge hi (by decide)) ⟨vp_in_nI hi (by decide), vp_in_nI (by omega) (by decide), vp_in_nI hi (by decide), vp_in_nI (by omega) (by decide), nm_r (nI_1 i) (ih _ (PI.up p0 hb1 (by omega) (tg_kp hi).symm (fun k q => by omega)))⟩
  obtain ⟨n, hn⟩ := k1 0 (by decide)
  refine ⟨n, hn (Mo_image m) ⟨fun k q => ?_, fun j q => by rw [s5]⟩⟩
  omega
