/-! the law: every call alike -/
def IMG (vi vj : Gr) (vk : Kp) (I J : Nat → Int32) (Sk : Nat → Sta) (Dk : Nat → Day) : Prop := (∀ n, n < 2 → J n = vk n) ∧ (∀ n, n < 2 → ¬ J n = 0 → RI I (100 * n) (Sk n) (Dk n) ∧ WS (Sk n) ∧ WE (Dk n)) ∧ (¬ vk 0 = 0 → RG vi (Sk 0) (Dk 0)) ∧ (¬ vk 1 = 0 → RG vj (Sk 1) (Dk 1))
def INV (vg : Gr) (vp : Pd) (vu : Gu) (vi vj : Gr) (vk : Kp) (vm : Mo) : Prop := ∃ (S : Sta) (D : Day) (sg : Nat → Nat) (cnt : Nat) (I J : Nat → Int32) (Sk : Nat → Sta) (Dk : Nat → Day), RG vg S D ∧ RPd vp sg cnt ∧ RT0 vu ∧ WS S ∧ WE D ∧ (∀ j, 0 ≤ sg j ∧ sg j ≤ 126) ∧ cnt ≤ 60 ∧ RMo vm S D sg cnt I J ∧ IMG vi vj vk I J Sk Dk
set_option maxHeartbeats 200000 in
theorem wallA_sh {S : Sta} {D : Day} {p1 p2 p3 : Int32} : zsh (wallA S D p1 p2 p3).2.2 = zsh D := by
  unfold wallA
  split
  · split <;> rfl
  · rfl
set_option maxHeartbeats 200000 in
theorem wallA_WE {S : Sta} {D : Day} {p1 p2 p3 : Int32} (hS : WS S) (hE : WE D) : WE (wallA S D p1 p2 p3).2.2 := by
  obtain ⟨-, w2, w3⟩ := wallA_W (p1 := p1) (p2 := p2) (p3 := p3) hS hE.1
  refine ⟨w2, by rw [w3]; exact hE.2.1, fun j => ?_⟩
  rw [wallA_sh]
  exact hE.2.2 j
set_option maxHeartbeats 200000 in
theorem IMG_a {vi vj vi' : Gr} {vk : Kp} {I J X : Nat → Int32} {Sk : Nat → Sta} {Dk : Nat → Day} {S : Sta} {D : Day} (h : IMG vi vj vk I J Sk Dk) (hS : WS S) (hE : WE D) (hR : RG vi' S D) (hI : RI X (100 * 0) S D) (hX : ∀ j, j < 100 * 0 ∨ 100 * 0 + 100 ≤ j → X j = I j) : IMG vi' vj (upd vk 0 1) X (upd J 0 1) (fun n => if n = 0 then S else Sk n) (fun n => if n = 0 then D else Dk n) := by
  obtain ⟨h1, h2, h3, h4⟩ := h
  refine ⟨fun n hn => ?_, fun n hn q => ?_, fun q => ?_, fun q => ?_⟩
  · unfold upd
    rw [h1 n hn]
  · rcases (show n = 0 ∨ n = 1 by omega) with rfl | rfl
    · exact ⟨hI, hS, hE⟩
    · obtain ⟨w1, w2, w3⟩ := h2 1 hn q
      refine ⟨fun k hk => ?_, w2, w3⟩
      rw [hX (100 * 1 + k) (Or.inr (by omega))]
      exact w1 k hk
  · exact hR
  · exact h4 q
set_option maxHeartbeats 200000 in
theorem IMG_b {vi vj vj' : Gr} {vk : Kp} {I J X : Nat → Int32} {Sk : Nat → Sta} {Dk : Nat → Day} {S : Sta} {D : Day} (h : IMG vi vj vk I J Sk Dk) (hS : WS S) (hE : WE D) (hR : RG vj' S D) (hI : RI X (100 * 1) S D) (hX : ∀ j, j < 100 * 1 ∨ 100 * 1 + 100 ≤ j → X j = I j) : IMG vi vj' (upd vk 1 1) X (upd J 1 1) (fun n => if n = 1 then S else Sk n) (fun n => if n = 1 then D else Dk n) := by
  obtain ⟨h1, h2, h3, h4⟩ := h
  refine ⟨fun n hn => ?_, fun n hn q => ?_, fun q => ?_, fun q => ?_⟩
  · unfold upd
    rw [h1 n hn]
  · rcases (show n = 0 ∨ n = 1 by omega) with rfl | rfl
    · obtain ⟨w1, w2, w3⟩ := h2 0 hn q
      refine ⟨fun k hk => ?_, w2, w3⟩
      have hk2 : k < 86 := by
        rcases hk with w | w | w <;> omega
      rw [hX (100 * 0 + k) (Or.inl (by omega))]
      exact w1 k hk
    · exact ⟨hI, hS, hE⟩
  · exact h3 q
  · exact hR
set_option maxHeartbeats 200000 in
theorem lt_7 {L i : Nat} (hL : L ≤ 448) (hi : i ≤ 10000) : (Int32.ofNat L - 7 < nI i) ↔ L < i + 7 := by
  rcases Nat.lt_or_ge L 7 with q | q
  · have e : Int32.ofNat L - 7 < 0 := by
      rcases (show L = 0 ∨ L = 1 ∨ L = 2 ∨ L = 3 ∨ L = 4 ∨ L = 5 ∨ L = 6 by omega) with rfl | rfl | rfl | rfl | rfl | rfl | rfl <;> decide
    refine ⟨fun _ => by omega, fun _ => ?_⟩
    have e2 : 0 ≤ nI i := nI_pos' (by omega)
    rw [Int32.lt_iff_toInt_lt] at e ⊢
    rw [Int32.le_iff_toInt_le] at e2
    omega
  · have e : Int32.ofNat L - 7 = nI (L - 7) := n_sub (b := 7) q
    rw [e, nI_ltI (by omega) (by omega)]
    omega
abbrev LQ : Int32 → Gr → Gr → Pd → Dy → Gr → Co → Gu → Gm → Gr → Gr → Kp → Ec → Mo → Prop := fun v _ _ _ _ _ _ _ _ _ _ _ _ _ => v = 1

set_option maxHeartbeats 2000000 in
theorem law_step {xs : Nat → Int32} {L i : Nat} {K : Gr → Gr → Pd → Dy → Gr → Co → Gu → Gm → Gr → Gr → Kp → Ec → Mo → Int32 → Prop} (hL : L ≤ 448) (hi : i + 7 ≤ L) (ih : ∀ {vg vs : Gr} {vp : Pd} {vy : Dy} {ve : Gr} {vc : Co} {vu : Gu} {vt : Gm} {vi vj : Gr} {vk : Kp} {vh : Ec} {vm : Mo}, INV vg vp vu vi vj vk vm → K vg vs vp vy ve vc vu vt vi vj vk vh vm (nI (i + 7))) {vg vs : Gr} {vp : Pd} {vy : Dy} {ve : Gr} {vc : Co} {vu : Gu} {vt : Gm} {vi vj : Gr} {vk : Kp} {vh : Ec} {vm : Mo} (h : INV vg vp vu vi vj vk vm) : wpL_law_H18 xs L LQ K vg vs vp vy ve vc vu vt vi vj vk vh vm (nI i) := by
  obtain ⟨S, D, sg, cnt, I, J, Sk, Dk, hR, hP, hT, hS, hE, hs, hc, hM, hI⟩ := h
  have fin : ∀ {vg vs : Gr} {vp : Pd} {vy : Dy} {ve : Gr} {vc : Co} {vu : Gu} {vt : Gm} {vi vj : Gr} {vk : Kp} {vh : Ec} {vm : Mo}, INV vg vp vu vi vj vk vm → wpL_law_B1044 xs L LQ K vg vs vp vy ve vc vu vt vi vj vk vh vm (nI i) := by
    intro vg vs vp vy ve vc vu vt vi vj vk vh vm h
    unfold wpL_law_B1044
    exact nm_r (n_add i 7) (ih h)
  have rg : ∀ n, n < 2 → ∀ {p : Int32}, p = nI n → inR p 0 1 := by
    intro n hn p hp
    rw [hp]
    exact inR_of (n := 1) (by decide) (by omega)
  have v1 : vp_in (nI i + 1) L := by
    rw [show nI i + 1 = nI (i + 1) from n_add i 1]
    exact vp_in_nI (by omega) (by omega)
  have v2 : vp_in (nI i + 2) L := by
    rw [show nI i + 2 = nI (i + 2) from n_add i 2]
    exact vp_in_nI (by omega) (by omega)
  have v3 : vp_in (nI i + 3) L := by
    rw [show nI i + 3 = nI (i + 3) from n_add i 3]
    exact vp_in_nI (by omega) (by omega)
  have v4 : vp_in (nI i + 4) L := by
    rw [show nI i + 4 = nI (i + 4) from n_add i 4]
    exact vp_in_nI (by omega) (by omega)
  have v5 : vp_in (nI i + 5) L := by
    rw [show nI i + 5 = nI (i + 5) from n_add i 5]
    exact vp_in_nI (by omega) (by omega)
  have v6 : vp_in (nI i + 6) L := by
    rw [show nI i + 6 = nI (i + 6) from n_add i 6]
    exact vp_in_nI (by omega) (by omega)
  unfold wpL_law_H18
  refine ⟨fun q => absurd ((lt_7 hL (by omega)).mp q) (by omega), fun _ => ⟨vp_in_nI (by omega) (by omega), ?_⟩⟩
  refine ⟨fun _ => ⟨v1, v2, v3, pX6_wall hR (fun g1 hR1 => ⟨v1, v2, v3, pX7_wall hM (fun m1 hM1 => ⟨fun _ => fin ⟨_, _, sg, cnt, I, J, Sk, Dk, hR1, hP, hT, (wallA_W hS hE.1).1, wallA_WE hS hE, hs, hc, hM1, hI⟩, fun ne => absurd rfl ne⟩)⟩)⟩, fun _ => ?_⟩
  refine ⟨fun _ => ⟨v1, v2, v3, v4, pX6_dress hR (fun g1 hR1 => ⟨v1, v2, v3, v4, pX7_dress hM (fun m1 hM1 => ⟨fun _ => fin ⟨_, D, sg, cnt, I, J, Sk, Dk, hR1, hP, hT, dressA_W hS, hE, hs, hc, hM1, hI⟩, fun ne => absurd rfl ne⟩)⟩)⟩, fun _ => ?_⟩
  refine ⟨fun _ => ⟨v1, pX6_limit hR (fun g1 hR1 => ⟨v1, pX7_limit hM (fun m1 hM1 => ⟨fun _ => fin ⟨_, D, sg, cnt, I, J, Sk, Dk, hR1, hP, hT, limitA_W hS, hE, hs, hc, hM1, hI⟩, fun ne => absurd rfl ne⟩)⟩)⟩, fun _ => ?_⟩
  refine ⟨fun _ => ⟨v1, pX6_say hP hc (fun w1 hP1 => ⟨v1, pX7_say hM hc (fun m1 hM1 => ⟨fun _ => fin ⟨S, D, _, _, I, J, Sk, Dk, hR, hP1, hT, hS, hE, (sayA_W hs hc).1, (sayA_W hs hc).2, hM1, hI⟩, fun ne => absurd rfl ne⟩)⟩)⟩, fun _ => ?_⟩
  refine ⟨fun _ => pX6_wipe hP (fun w1 hP1 => pX7_wipe hM (fun m1 hM1 => ⟨fun _ => fin ⟨S, D, sg, 0, I, J, Sk, Dk, hR, hP1, hT, hS, hE, hs, Nat.zero_le _, hM1, hI⟩, fun ne => absurd rfl ne⟩)), fun _ => ?_⟩
  refine ⟨fun _ => pX6_fault hP hs hc (pX7_fault hM hs hc ⟨fun _ => fin ⟨S, D, sg, cnt, I, J, Sk, Dk, hR, hP, hT, hS, hE, hs, hc, hM, hI⟩, fun ne => absurd rfl ne⟩), fun _ => ?_⟩
  refine ⟨fun _ => ⟨v1, pX6_judge hR hP hS hE hs hc (fun y1 e1 => ⟨v1, pX7_judge hM hS hE hs hc (fun m1 hF => ⟨fun _ => fin ⟨S, D, sg, cnt, I, J, Sk, Dk, hR, hP, hT, hS, hE, hs, hc, hF.R hM, hI⟩, fun ne => absurd rfl ne⟩)⟩)⟩, fun _ => ?_⟩
  refine ⟨fun _ => pX6_done hR hP hS hE hs hc (fun g1 w1 y1 e1 hR1 hP1 => pX7_done hM hS hE hs hc (fun m1 hM1 => ⟨fun _ => fin ⟨S, _, sg, _, I, J, Sk, Dk, hR1, hP1, hT, hS, (doneA_W hS hE hc).1, hs, (doneA_W hS hE hc).2, hM1, hI⟩, fun ne => absurd rfl ne⟩)), fun _ => ?_⟩
  refine ⟨fun _ => ⟨v1, pX6_behind hR hP hS hE hs hc (fun y1 e1 => ⟨v1, pX7_behind hM hS hE hs hc (fun m1 hF => ⟨fun _ => fin ⟨S, D, sg, cnt, I, J, Sk, Dk, hR, hP, hT, hS, hE, hs, hc, hF.R hM, hI⟩, fun ne => absurd rfl ne⟩)⟩)⟩, fun _ => ?_⟩
  refine ⟨fun _ => pX6_broken hR hP hS hE hs hc (fun y1 e1 => pX7_broken hM hS hE hs hc (fun m1 hF => ⟨fun _ => fin ⟨S, D, sg, cnt, I, J, Sk, Dk, hR, hP, hT, hS, hE, hs, hc, hF.R hM, hI⟩, fun ne => absurd rfl ne⟩)), fun _ => ?_⟩
  refine ⟨fun _ => ⟨v1, pX6_sees hR hS hE.1 ⟨v1, pX7_sees hM hS hE.1 (fun m1 hF => ⟨fun _ => fin ⟨S, D, sg, cnt, I, J, Sk, Dk, hR, hP, hT, hS, hE, hs, hc, hF.R hM, hI⟩, fun ne => absurd rfl ne⟩)⟩⟩, fun _ => ?_⟩
  refine ⟨fun _ => ⟨v1, v2, pX6_forecast hR hS hE.1 (fun co1 => ⟨v1, v2, pX7_forecast hM hS hE.1 hE.2.1 (fun m1 hF => ⟨fun _ => fin ⟨S, D, sg, cnt, I, J, Sk, Dk, hR, hP, hT, hS, hE, hs, hc, hF.R hM, hI⟩, fun ne => absurd rfl ne⟩)⟩)⟩, fun _ => ?_⟩
  refine ⟨fun _ => pX6_gone hR hS hE.1 (fun co1 => pX7_gone hM hS hE.1 hE.2.1 (fun m1 hF => ⟨fun _ => fin ⟨S, D, sg, cnt, I, J, Sk, Dk, hR, hP, hT, hS, hE, hs, hc, hF.R hM, hI⟩, fun ne => absurd rfl ne⟩)), fun _ => ?_⟩
  refine ⟨fun _ => ⟨v1, pX6_hue hR hS hE.1 (fun co1 => ⟨v1, pX7_hue hM hS hE.1 hE.2.1 (fun m1 hF => ⟨fun _ => fin ⟨S, D, sg, cnt, I, J, Sk, Dk, hR, hP, hT, hS, hE, hs, hc, hF.R hM, hI⟩, fun ne => absurd rfl ne⟩)⟩)⟩, fun _ => ?_⟩
  refine ⟨fun _ => ⟨v1, v2, v3, v4, pX6_make hR hS hE.1 (fun co1 => ⟨v1, v2, v3, v4, pX7_make hM hS hE.1 hE.2.1 hE.2.2 (fun m1 hF => ⟨fun _ => fin ⟨S, D, sg, cnt, I, J, Sk, Dk, hR, hP, hT, hS, hE, hs, hc, hF.R hM, hI⟩, fun ne => absurd rfl ne⟩)⟩)⟩, fun _ => ?_⟩
  refine ⟨fun _ => ⟨v1, v2, v3, v4, pX6_wish hR hS hE.1 (fun co1 => ⟨v1, v2, v3, v4, pX7_wish hM hS hE.1 hE.2.1 hE.2.2 (fun m1 hF => ⟨fun _ => fin ⟨S, D, sg, cnt, I, J, Sk, Dk, hR, hP, hT, hS, hE, hs, hc, hF.R hM, hI⟩, fun ne => absurd rfl ne⟩)⟩)⟩, fun _ => ?_⟩
  refine ⟨fun _ => ⟨v1, v2, v3, pX6_whiten hR hS hE.1 (fun s1 co1 => ⟨v1, v2, v3, pX7_whiten hM hS hE.1 hE.2.1 (fun m1 hF => ⟨fun _ => fin ⟨S, D, sg, cnt, I, J, Sk, Dk, hR, hP, hT, hS, hE, hs, hc, hF.R hM, hI⟩, fun ne => absurd rfl ne⟩)⟩)⟩, fun _ => ?_⟩
  refine ⟨fun _ => ⟨v1, v2, v3, pX6_apart hR hS hE.1 (fun co1 e1 => ⟨v1, v2, v3, pX7_apart hM hS hE.1 hE.2.1 (fun m1 hF => ⟨fun _ => fin ⟨S, D, sg, cnt, I, J, Sk, Dk, hR, hP, hT, hS, hE, hs, hc, hF.R hM, hI⟩, fun ne => absurd rfl ne⟩)⟩)⟩, fun _ => ?_⟩
  refine ⟨fun _ => ⟨v1, v2, v3, pX6_spoil hR hS hE.1 (fun co1 => ⟨v1, v2, v3, pX7_spoil hM hS hE.1 hE.2.1 (fun m1 hF => ⟨fun _ => fin ⟨S, D, sg, cnt, I, J, Sk, Dk, hR, hP, hT, hS, hE, hs, hc, hF.R hM, hI⟩, fun ne => absurd rfl ne⟩)⟩)⟩, fun _ => ?_⟩
  refine ⟨fun _ => ⟨v1, v2, pX6_seen hR hS (fun g1 hR1 => ⟨v1, v2, pX7_seen hM hS (fun m1 hM1 => ⟨fun _ => fin ⟨_, D, sg, cnt, I, J, Sk, Dk, hR1, hP, hT, seenA_W hS, hE, hs, hc, hM1, hI⟩, fun ne => absurd rfl ne⟩)⟩)⟩, fun _ => ?_⟩
  refine ⟨fun _ => pX6_forget hR (fun g1 hR1 => pX7_forget hM (fun m1 hM1 => ⟨fun _ => fin ⟨_, D, sg, cnt, I, J, Sk, Dk, hR1, hP, hT, ⟨hS.1, hS.2.1, hS.2.2.1, Nat.zero_le _, hS.2.2.2.2⟩, hE, hs, hc, hM1, hI⟩, fun ne => absurd rfl ne⟩)), fun _ => ?_⟩
  refine ⟨fun _ => ⟨v1, pX6_shown hR hS hE.1 hT (fun co1 u1 hT1 => ⟨v1, pX7_shown hM hS hE (fun m1 hF => ⟨fun _ => fin ⟨S, D, sg, cnt, I, J, Sk, Dk, hR, hP, hT1, hS, hE, hs, hc, hF.R hM, hI⟩, fun ne => absurd rfl ne⟩)⟩)⟩, fun _ => ?_⟩
  refine ⟨fun _ => ⟨v1, pX6_look hR hS hE.1 hT (fun co1 u1 hT1 => ⟨v1, pX7_look hM hS hE (fun m1 hF => ⟨fun _ => fin ⟨S, D, sg, cnt, I, J, Sk, Dk, hR, hP, hT1, hS, hE, hs, hc, hF.R hM, hI⟩, fun ne => absurd rfl ne⟩)⟩)⟩, fun _ => ?_⟩
  refine ⟨fun _ => ⟨v1, v2, v3, v4, v5, v6, pX6_fogs hR hS hE.1 (fun co1 => ⟨v1, v2, v3, v4, v5, v6, pX7_fogs hM hS hE (fun m1 hF => ⟨fun _ => fin ⟨S, D, sg, cnt, I, J, Sk, Dk, hR, hP, hT, hS, hE, hs, hc, hF.R hM, hI⟩, fun ne => absurd ((lg_cmp_eq _ _).mpr rfl) ne⟩)⟩)⟩, fun _ => ?_⟩
  refine ⟨fun _ => ⟨v1, v2, pX6_turns hR hS hE.1 (fun t1 => ⟨v1, v2, pX7_turns hM hS hE (fun m1 hF => ⟨fun _ => fin ⟨S, D, sg, cnt, I, J, Sk, Dk, hR, hP, hT, hS, hE, hs, hc, hF.R hM, hI⟩, fun ne => absurd rfl ne⟩)⟩)⟩, fun _ => ?_⟩
  refine ⟨fun _ => ⟨v1, v2, v3, pX6_year hR hS hE (fun s1 => ⟨v1, v2, v3, pX7_year hM hS hE (fun m1 hF => ⟨fun _ => fin ⟨S, D, sg, cnt, I, J, Sk, Dk, hR, hP, hT, hS, hE, hs, hc, hF.R hM, hI⟩, fun ne => absurd rfl ne⟩)⟩)⟩, fun _ => ?_⟩
  refine ⟨fun _ => ⟨v1, pX6_image hR hE.1 (fun c => ⟨v1, pX7_image hM (fun _ => ⟨fun _ => fin ⟨S, D, sg, cnt, I, J, Sk, Dk, hR, hP, hT, hS, hE, hs, hc, hM, hI⟩, fun ne => absurd rfl ne⟩) (fun n X m1 hn hp _ _ _ => absurd (rg n hn hp) c)⟩) (fun e0 vi1 hRi => ⟨v1, pX7_image hM (fun c => absurd (rg 0 (by decide) e0) c) (fun n X m1 hn hp hRI hX hM1 => ?_)⟩) (fun e0 vj1 hRj => ⟨v1, pX7_image hM (fun c => absurd (rg 1 (by decide) e0) c) (fun n X m1 hn hp hRI hX hM1 => ?_)⟩)⟩, fun _ => ?_⟩
  · have z : n = 0 := nI_inj (by omega) (by decide) (hp.symm.trans e0)
    subst z
    exact ⟨fun _ => fin ⟨S, D, sg, cnt, X, _, _, _, hR, hP, hT, hS, hE, hs, hc, hM1, IMG_a hI hS hE hRi hRI hX⟩, fun ne => absurd rfl ne⟩
  · have z : n = 1 := nI_inj (by omega) (by decide) (hp.symm.trans e0)
    subst z
    exact ⟨fun _ => fin ⟨S, D, sg, cnt, X, _, _, _, hR, hP, hT, hS, hE, hs, hc, hM1, IMG_b hI hS hE hRj hRI hX⟩, fun ne => absurd rfl ne⟩
  refine ⟨fun _ => ⟨v1, pX6_restore Sk Dk (fun q => ⟨hI.2.2.1 q, (hI.2.1 0 (by decide) (by rw [hI.1 0 (by decide)]; exact q)).2.2.1⟩) (fun q => ⟨hI.2.2.2 q, (hI.2.1 1 (by decide) (by rw [hI.1 1 (by decide)]; exact q)).2.2.1⟩) (fun c => ⟨v1, pX7_restore Sk Dk hM (fun n hn q => (hI.2.1 n hn q).1) (fun _ => ⟨fun _ => fin ⟨S, D, sg, cnt, I, J, Sk, Dk, hR, hP, hT, hS, hE, hs, hc, hM, hI⟩, fun ne => absurd rfl ne⟩) (fun n hn hp _ => absurd (rg n hn hp) c) (fun n m1 hn hp _ _ => absurd (rg n hn hp) c)⟩) (fun n hn hp hz => ⟨v1, pX7_restore Sk Dk hM (fun n hn q => (hI.2.1 n hn q).1) (fun c => absurd (rg n hn hp) c) (fun n2 hn2 hp2 hz2 => ⟨fun _ => fin ⟨S, D, sg, cnt, I, J, Sk, Dk, hR, hP, hT, hS, hE, hs, hc, hM, hI⟩, fun ne => absurd rfl ne⟩) (fun n2 m1 hn2 hp2 hz2 _ => ?_)⟩) (fun n g1 hn hp hz hRg => ⟨v1, pX7_restore Sk Dk hM (fun n hn q => (hI.2.1 n hn q).1) (fun c => absurd (rg n hn hp) c) (fun n2 hn2 hp2 hz2 => ?_) (fun n2 m1 hn2 hp2 hz2 hM1 => ?_)⟩)⟩, fun _ => ?_⟩
  · have z : n2 = n := nI_inj (by omega) (by omega) (hp2.symm.trans hp)
    subst z
    exact absurd ((hI.1 n2 hn2).trans hz) hz2
  · have z : n2 = n := nI_inj (by omega) (by omega) (hp2.symm.trans hp)
    subst z
    exact absurd ((hI.1 n2 hn2).symm.trans hz2) hz
  · have z : n2 = n := nI_inj (by omega) (by omega) (hp2.symm.trans hp)
    subst z
    exact ⟨fun _ => fin ⟨Sk n2, Dk n2, sg, cnt, I, J, Sk, Dk, hRg, hP, hT, (hI.2.1 n2 hn2 hz2).2.1, (hI.2.1 n2 hn2 hz2).2.2, hs, hc, hM1, hI⟩, fun ne => absurd rfl ne⟩
  refine ⟨fun _ => ⟨v1, pX6_told hR hP hE.1 ⟨v1, pX7_told hM ⟨fun _ => fin ⟨S, D, sg, cnt, I, J, Sk, Dk, hR, hP, hT, hS, hE, hs, hc, hM, hI⟩, fun ne => absurd rfl ne⟩⟩⟩, fun _ => ?_⟩
  exact fin ⟨S, D, sg, cnt, I, J, Sk, Dk, hR, hP, hT, hS, hE, hs, hc, hM, hI⟩
set_option maxHeartbeats 200000 in
theorem law_all {xs : Nat → Int32} {L : Nat} (hL : L ≤ 448) : ∀ k i, i ≤ 1000 → L < i + 7 * k + 7 → ∀ {vg vs : Gr} {vp : Pd} {vy : Dy} {ve : Gr} {vc : Co} {vu : Gu} {vt : Gm} {vi vj : Gr} {vk : Kp} {vh : Ec} {vm : Mo}, INV vg vp vu vi vj vk vm → wpL_law_L18 xs L LQ (k + 1) vg vs vp vy ve vc vu vt vi vj vk vh vm (nI i) := by
  intro k
  induction k with
  | zero =>
    intro i hi hk vg vs vp vy ve vc vu vt vi vj vk vh vm h
    show wpL_law_H18 xs L LQ _ _ _ _ _ _ _ _ _ _ _ _ _ _ _
    unfold wpL_law_H18
    exact br_t ((lt_7 hL (by omega)).mpr (by omega)) rfl
  | succ k ih =>
    intro i hi hk vg vs vp vy ve vc vu vt vi vj vk vh vm h
    rcases Nat.lt_or_ge L (i + 7) with q | q
    · show wpL_law_H18 xs L LQ _ _ _ _ _ _ _ _ _ _ _ _ _ _ _
      unfold wpL_law_H18
      exact br_t ((lt_7 hL (by omega)).mpr (by omega)) rfl
    · exact law_step hL q (fun {a1 a2 a3 a4 a5 a6 a7 a8 a9 b1 b2 b3 b4} h2 => ih (i + 7) (by omega) (by omega) h2) h
def S00 : Sta := (fun j => if j < 4 then j + 1 else 1, fun _ => 0, 500, 0, fun _ => 0, fun _ => 0)
def D00 : Day := (fun _ => 0, fun _ => 0, fun _ => 0, 0, 0, 0, 0)
set_option maxHeartbeats 200000 in
theorem WS00 : WS S00 := by
  refine ⟨fun j => ?_, fun _ => Nat.zero_le _, by decide, by decide, fun _ => Nat.zero_le _, fun _ => Nat.zero_le _⟩
  show 1 ≤ (if j < 4 then j + 1 else 1) ∧ (if j < 4 then j + 1 else 1) ≤ 9
  split <;> omega
set_option maxHeartbeats 200000 in
theorem WE00 : WE D00 := ⟨⟨fun _ => Nat.zero_le _, fun _ => Nat.zero_le _, fun _ => Nat.zero_le _, Nat.zero_le _, Nat.zero_le _, by decide, Nat.zero_le _⟩, Nat.zero_le _, fun _ => Nat.zero_le _⟩
set_option maxHeartbeats 200000 in
theorem off00 : ∀ j, j < 4 → Gr_off gr0 j = nI (zoff S00 j) ∧ Mo_off mo0 j = nI (zoff S00 j) := by decide
set_option maxHeartbeats 200000 in
theorem RG00 : RG gr0 S00 D00 := ⟨fun j hj => (off00 j hj).1, fun _ _ => rfl, rfl, rfl, fun _ _ => rfl, fun _ _ => rfl, fun _ _ => rfl, fun _ _ => rfl, fun _ _ => rfl, rfl, rfl, rfl, rfl⟩
set_option maxHeartbeats 200000 in
theorem RMo00 : RMo mo0 S00 D00 (fun _ => 0) 0 (fun _ => 0) (fun _ => 0) := ⟨⟨fun j hj => (off00 j hj).2, fun _ _ => rfl, rfl⟩, ⟨fun _ _ => rfl, fun _ _ => rfl, fun _ _ => rfl, rfl, rfl, rfl, rfl⟩, rfl, fun _ _ => ⟨rfl, rfl⟩, rfl, fun _ _ => rfl, rfl, rfl⟩
set_option maxHeartbeats 200000 in
theorem INV00 : INV gr0 pd0 gu0 gr0 gr0 kp0 mo0 := ⟨S00, D00, fun _ => 0, 0, fun _ => 0, fun _ => 0, fun _ => S00, fun _ => D00, RG00, ⟨fun _ _ => rfl, rfl⟩, fun _ _ => rfl, WS00, WE00, fun _ => ⟨Nat.zero_le _, Nat.zero_le _⟩, Nat.zero_le _, RMo00, fun _ _ => rfl, fun _ _ q => absurd rfl q, fun q => absurd rfl q, fun q => absurd rfl q⟩
set_option maxHeartbeats 200000 in
theorem law_pure {xs : Nat → Int32} {L : Nat} (hL : L ≤ 448) : wpL_law_L18 xs L LQ 65 gr0 gr0 pd0 dy0 gr0 co0 gu0 gm0 gr0 gr0 kp0 ec0 mo0 0 := law_all hL 64 0 (by decide) (by omega) INV00
