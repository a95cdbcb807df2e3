/-! look: the model's side -/
/-- best day and its most, as the model holds them behind n days -/
def bdA (S : Sta) (kp : Nat → Nat) (n : Nat) : Int32 × Int32 := if n = 0 ∨ cG S kp 100 = 0 then (-6, 1000000) else (nI (lkA S kp (n - 1)).1, nI (lkA S kp (n - 1)).2)
set_option maxHeartbeats 200000 in
theorem pX7_look {m : Mo} {S : Sta} {D : Day} {sg : Nat → Nat} {cnt : Nat} {I J : Nat → Int32} {p1 : Int32} {Q : Int32 → Mo → Prop} (hR : RMo m S D sg cnt I J) (hS : WS S) (hE : WE D) (h : ∀ m', FX m m' → Q (lookA S (zkp D) p1) m') : wpX7_look m p1 Q := by
  have c := cG_100 (S := S) (kp := zkp D)
  unfold lookA at h
  unfold wpX7_look
  refine ck2X7_in (fun c1 => ?_) (fun c1 => ?_)
  · rw [if_pos c1] at h
    refine pX7_layShown hR hS hE (fun m1 hF1 hL1 => ?_)
    have key : ∀ d, d ≤ 61 → ∃ n, ∀ m2 : Mo, FX m m2 → RSi m2 S (zkp D) 10 → wpX7_look_L25 Q n m2 p1 (bdA S (zkp D) d).1 (bdA S (zkp D) d).2 (nI d) := by
      refine up_loop 61 (fun n => ?_) (fun n d hd ih => ?_)
      · intro m2 hF hL
        show wpX7_look_H25 Q _ _ _ _ _ _
        unfold wpX7_look_H25
        refine br_t (nI_le (by decide) (by decide)) ?_
        have l := lkA_le (S := S) (kp := zkp D) 60
        by_cases q : cG S (zkp D) 100 = 0
        · have e : bdA S (zkp D) 61 = (-6, 1000000) := if_pos (Or.inr q)
          rw [if_pos q] at h
          rw [e]
          exact br_t (by decide) (h m2 hF)
        · have e : bdA S (zkp D) 61 = (nI (lkA S (zkp D) 60).1, nI (lkA S (zkp D) 60).2) := if_neg (by omega)
          rw [if_neg q] at h
          rw [e]
          refine br_f (nI_pos (by omega)) (bn_c (fun u => ?_) (fun u => ?_))
          · rw [if_neg u] at h; exact h m2 hF
          · rw [if_pos u] at h; exact h m2 hF
      · intro m2 hF hL
        show wpX7_look_H25 Q _ _ _ _ _ _
        unfold wpX7_look_H25
        refine br_f (nI_ge hd (by decide)) ?_
        -- the guesses
        have k2 : ∀ u, u ≤ 100 → ∃ k, ∀ m3 : Mo, FX m m3 → RSi m3 S (zkp D) 10 → aI 1000 (Mo_counts m3) (TJ S (zkp D) d (cG S (zkp D) u)) → wpX7_look_L63 Q (wpX7_look_L25 Q n) k m3 p1 (bdA S (zkp D) d).1 (bdA S (zkp D) d).2 (nI d) (nI (MJ S (zkp D) d (cG S (zkp D) u))) (nI u) := by
          refine up_loop 100 (fun k => ?_) (fun k u hu ihu => ?_)
          · intro m3 hF3 hL3 y
            show wpX7_look_H63 Q _ _ _ _ _ _ _ _ _
            unfold wpX7_look_H63
            refine br_t (nI_le (by decide) (by decide)) ?_
            have l := lkA_le (S := S) (kp := zkp D) (d - 1)
            have ml := mlA_le (S := S) (kp := zkp D) (day := d)
            have em : MJ S (zkp D) d (cG S (zkp D) 100) = mlA S (zkp D) d := rfl
            rw [em]
            -- as it was
            have keep : bdA S (zkp D) (d + 1) = bdA S (zkp D) d → wpX7_look_B171 Q (wpX7_look_L25 Q n) m3 p1 (bdA S (zkp D) d).1 (bdA S (zkp D) d).2 (nI d) (nI (mlA S (zkp D) d)) := by
              intro e
              unfold wpX7_look_B171 wpX7_look_B172
              refine br_t rfl ?_
              unfold wpX7_look_B185
              refine br_t rfl ?_
              unfold wpX7_look_B197
              refine nm_r (nI_1 d) ?_
              rw [← e]
              exact ih m3 hF3 hL3
            have take : bdA S (zkp D) (d + 1) = (nI d, nI (mlA S (zkp D) d)) → wpX7_look_B172 Q (wpX7_look_L25 Q n) m3 p1 (bdA S (zkp D) d).1 (bdA S (zkp D) d).2 (nI d) (nI (mlA S (zkp D) d)) 1 := by
              intro e
              unfold wpX7_look_B172
              refine br_f one_ne ?_
              unfold wpX7_look_B185
              refine br_f one_ne ?_
              unfold wpX7_look_B197
              refine nm_r (nI_1 d) ?_
              have w := ih m3 hF3 hL3
              rw [e] at w
              exact w
            by_cases q : cG S (zkp D) 100 = 0
            · have e0 : mlA S (zkp D) d = 0 := by unfold mlA; rw [q]; rfl
              have e1 : bdA S (zkp D) (d + 1) = (-6, 1000000) := if_pos (Or.inr q)
              have e2 : bdA S (zkp D) d = (-6, 1000000) := if_pos (Or.inr q)
              refine br_t ?_ (keep (by rw [e1, e2]))
              rw [e0]; decide
            · have pos : 0 < mlA S (zkp D) d := MJ_pos _ (by omega)
              have e1 : bdA S (zkp D) (d + 1) = (nI (lkA S (zkp D) d).1, nI (lkA S (zkp D) d).2) := if_neg (by omega)
              refine br_f (nI_ge pos (by omega)) ?_
              by_cases q0 : d = 0
              · have e2 : bdA S (zkp D) d = (-6, 1000000) := if_pos (Or.inl q0)
                refine br_f ?_ (take ?_)
                · rw [e2]
                  exact nI_ge (show mlA S (zkp D) d < 1000000 by omega) (by decide)
                · rw [e1, q0]; rfl
              · have e2 : bdA S (zkp D) d = (nI (lkA S (zkp D) (d - 1)).1, nI (lkA S (zkp D) (d - 1)).2) := if_neg (by omega)
                have e4 : lkA S (zkp D) d = if mlA S (zkp D) d < (lkA S (zkp D) (d - 1)).2 then (d, mlA S (zkp D) d) else lkA S (zkp D) (d - 1) := by
                  obtain ⟨d', rfl⟩ : ∃ d', d = d' + 1 := ⟨d - 1, by omega⟩
                  rfl
                have e5 : (bdA S (zkp D) d).2 = nI (lkA S (zkp D) (d - 1)).2 := by rw [e2]
                by_cases w : (lkA S (zkp D) (d - 1)).2 ≤ mlA S (zkp D) d
                · rw [if_neg (by omega)] at e4
                  refine br_t ?_ (keep (by rw [e1, e2, e4]))
                  rw [e5]; exact nI_le w (by omega)
                · rw [if_pos (by omega)] at e4
                  refine br_f ?_ (take (by rw [e1, e4]))
                  rw [e5]; exact nI_ge (by omega) (by omega)
          · intro m3 hF3 hL3 y
            show wpX7_look_H63 Q _ _ _ _ _ _ _ _ _
            unfold wpX7_look_H63
            have e2 : nI u - nI u / 10 * 10 = nI (u % 10) := by
              simp (disch := omega) only [k_0, k_1, k_2, k_3, k_4, k_5, k_6, k_7, k_8, k_9, k_10, k_15, k_16, k_18, k_20, k_26, k_27, k_31, k_33, k_46, k_48, k_49, k_51, k_53, k_57, k_60, k_61, k_63, k_64, k_65, k_70, k_71, k_74, k_75, k_80, k_81, k_82, k_83, k_84, k_85, k_98, k_99, k_100, k_102, k_114, k_115, k_119, k_121, k_126, k_200, k_999, k_1000, k_3000, k_9999, k_65537, k_1000000, k_999999999, k_500, n_mul, n_add, n_sub, n_div]
              congr 1; omega
            have e1 : nI u / 10 = nI (u / 10) := by simp (disch := omega) only [k_0, k_1, k_2, k_3, k_4, k_5, k_6, k_7, k_8, k_9, k_10, k_15, k_16, k_18, k_20, k_26, k_27, k_31, k_33, k_46, k_48, k_49, k_51, k_53, k_57, k_60, k_61, k_63, k_64, k_65, k_70, k_71, k_74, k_75, k_80, k_81, k_82, k_83, k_84, k_85, k_98, k_99, k_100, k_102, k_114, k_115, k_119, k_121, k_126, k_200, k_999, k_1000, k_3000, k_9999, k_65537, k_1000000, k_999999999, k_500, n_mul, n_add, n_sub, n_div]
            rw [e2, e1]
            refine br_f (nI_ge hu (by decide)) ?_
            have next : ∀ j, j = cG S (zkp D) (u + 1) → ∀ m4 : Mo, FX m m4 → RSi m4 S (zkp D) 10 → aI 1000 (Mo_counts m4) (TJ S (zkp D) d j) → wpX7_look_B150 Q (wpX7_look_L25 Q n) (wpX7_look_L63 Q (wpX7_look_L25 Q n) k) m4 p1 (bdA S (zkp D) d).1 (bdA S (zkp D) d).2 (nI d) (nI (MJ S (zkp D) d j)) (nI u) := by
              intro j hj m4 hF4 hL4 y4
              unfold wpX7_look_B150
              subst hj
              exact nm_r (nI_1 u) (ihu m4 hF4 hL4 y4)
            refine pk_le (u % 10) 0 (fun q => ?_) (fun q => ?_)
            · exact next _ (cG_no (fun w => absurd w.1 (by omega))).symm m3 hF3 hL3 y
            · refine pX7_fits (hF3.R hR) hS hL3 hu (by omega) (fun w => br_f one_ne ?_) (fun w => br_t rfl (next _ (cG_no (fun v => w v.2)).symm m3 hF3 hL3 y))
              have ok : okG S (zkp D) u := ⟨by omega, w⟩
              have g1 := gth_ok ok 100 (by omega)
              have sb := sbA_le S (zkp D) u d
              have cu := cG_le (S := S) (kp := zkp D) u
              have t1 := TJ_le (S := S) (kp := zkp D) (day := d) (cG S (zkp D) u) (sbA S (zkp D) u d)
              have m1' := MJ_le (S := S) (kp := zkp D) (day := d) (cG S (zkp D) u)
              refine pX7_seenOn hL3 hu (by omega) (by omega) ⟨vp_in_nI (by omega) (by decide), vp_in_nI (by omega) (by decide), vp_in_nI (by omega) (by decide), ?_⟩
              have et : Mo_counts m3 (nI (sbA S (zkp D) u d)).toNatClampNeg + 1 = nI (TJ S (zkp D) d (cG S (zkp D) u) (sbA S (zkp D) u d) + 1) := by
                rw [aI_rd y (show sbA S (zkp D) u d < 1000 by omega)]
                exact nI_1 _
              rw [et]
              have eu : upd (Mo_counts m3) (nI (sbA S (zkp D) u d)).toNatClampNeg (nI (TJ S (zkp D) d (cG S (zkp D) u) (sbA S (zkp D) u d) + 1)) (nI (sbA S (zkp D) u d)).toNatClampNeg = nI (TJ S (zkp D) d (cG S (zkp D) u) (sbA S (zkp D) u d) + 1) := if_pos rfl
              rw [eu]
              have eT : TJ S (zkp D) d (cG S (zkp D) u + 1) = fU (TJ S (zkp D) d (cG S (zkp D) u)) (sbA S (zkp D) u d) (TJ S (zkp D) d (cG S (zkp D) u) (sbA S (zkp D) u d) + 1) := by
                show fU (TJ S (zkp D) d (cG S (zkp D) u)) (sbA S (zkp D) (gth S (zkp D) 100 (cG S (zkp D) u)) d) _ = _
                rw [g1]
              have eM : MJ S (zkp D) d (cG S (zkp D) u + 1) = max (MJ S (zkp D) d (cG S (zkp D) u)) (TJ S (zkp D) d (cG S (zkp D) u) (sbA S (zkp D) u d) + 1) := by
                show max _ (TJ S (zkp D) d (cG S (zkp D) u) (sbA S (zkp D) (gth S (zkp D) 100 (cG S (zkp D) u)) d) + 1) = _
                rw [g1]
              have y4 : aI 1000 (upd (Mo_counts m3) (nI (sbA S (zkp D) u d)).toNatClampNeg (nI (TJ S (zkp D) d (cG S (zkp D) u) (sbA S (zkp D) u d) + 1))) (TJ S (zkp D) d (cG S (zkp D) u + 1)) := by
                rw [eT]; exact aI_up y
              have nx := next _ (cG_ok ok).symm (Mo_s_counts m3 (upd (Mo_counts m3) (nI (sbA S (zkp D) u d)).toNatClampNeg (nI (TJ S (zkp D) d (cG S (zkp D) u) (sbA S (zkp D) u d) + 1)))) (hF3.counts _) hL3 y4
              rw [eM] at nx
              refine pk_le (TJ S (zkp D) d (cG S (zkp D) u) (sbA S (zkp D) u d) + 1) (MJ S (zkp D) d (cG S (zkp D) u)) (fun v => ?_) (fun v => ⟨vp_in_nI (by omega) (by decide), ?_⟩)
              · unfold wpX7_look_B148
                rw [show max (MJ S (zkp D) d (cG S (zkp D) u)) (TJ S (zkp D) d (cG S (zkp D) u) (sbA S (zkp D) u d) + 1) = MJ S (zkp D) d (cG S (zkp D) u) from Nat.max_eq_left v] at nx
                exact nx
              · unfold wpX7_look_B148
                rw [show max (MJ S (zkp D) d (cG S (zkp D) u)) (TJ S (zkp D) d (cG S (zkp D) u) (sbA S (zkp D) u d) + 1) = TJ S (zkp D) d (cG S (zkp D) u) (sbA S (zkp D) u d) + 1 from Nat.max_eq_right (by omega)] at nx
                exact nx
        have k1 : ∀ v, v ≤ 1000 → ∃ k, ∀ m3 : Mo, FX m m3 → RSi m3 S (zkp D) 10 → aI v (Mo_counts m3) (fun _ => 0) → wpX7_look_L38 Q (wpX7_look_L25 Q n) k m3 p1 (bdA S (zkp D) d).1 (bdA S (zkp D) d).2 (nI d) 0 (nI v) := by
          refine up_loop 1000 (fun k => ?_) (fun k v hv ihv => ?_)
          · intro m3 hF3 hL3 y
            show wpX7_look_H38 Q _ _ _ _ _ _ _ _ _
            unfold wpX7_look_H38
            obtain ⟨k2n, hk2⟩ := k2 0 (by decide)
            exact br_t (nI_le (by decide) (by decide)) ⟨k2n, hk2 m3 hF3 hL3 y⟩
          · intro m3 hF3 hL3 y
            show wpX7_look_H38 Q _ _ _ _ _ _ _ _ _
            unfold wpX7_look_H38
            exact br_f (nI_ge hv (by decide)) ⟨vp_in_nI (by omega) (by decide), nm_r (nI_1 v) (ihv _ (hF3.counts _) hL3 (aI_st (v := 0) y rfl (by omega)))⟩
        obtain ⟨k, hk⟩ := k1 0 (by decide)
        exact ⟨k, hk m2 hF hL (fun j hj => absurd hj (Nat.not_lt_zero j))⟩
    obtain ⟨n, hn⟩ := key 0 (by decide)
    exact ⟨n, hn m1 hF1 hL1⟩
  · rw [if_neg c1] at h; exact h m FX.rf
