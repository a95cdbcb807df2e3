/-! years -/
def drawA (D : Day) (x : Nat) : Day := (fU (fun _ => 0) (x % 3) (x / 7 % 100), ztn D, zkp D, if x % 7 = 0 then 1 else 0, if x % 31 = 0 then 1 else 0, zou D, zdy D)
def lcA (x : Nat) : Nat := (75 * x + 74) % 65537
def most3 (off : Nat → Nat) (D : Day) : Nat := max (seeA off D 0 0) (max (seeA off D 1 0) (seeA off D 2 0))
def yrA (S : Sta) (D : Day) (seed : Nat) : Nat → Nat × Day × Nat × Nat
  | 0 => (seed, D, 0, 0)
  | i + 1 => (lcA (yrA S D seed i).1, drawA (passA (zoff S) (yrA S D seed i).2.1) (lcA (yrA S D seed i).1), (yrA S D seed i).2.2.1 + (if overA (zoff S) (zlim S) (drawA (passA (zoff S) (yrA S D seed i).2.1) (lcA (yrA S D seed i).1)) then 1 else 0), max (yrA S D seed i).2.2.2 (most3 (zoff S) (drawA (passA (zoff S) (yrA S D seed i).2.1) (lcA (yrA S D seed i).1))))
set_option maxHeartbeats 200000 in
theorem lcA_lt (x : Nat) : lcA x < 65537 := Nat.mod_lt _ (by decide)
set_option maxHeartbeats 200000 in
theorem most3_le (off : Nat → Nat) (D : Day) : most3 off D ≤ 999 := by
  have s0 := seeA_le off D 0 0
  have s1 := seeA_le off D 1 0
  have s2 := seeA_le off D 2 0
  unfold most3; omega
set_option maxHeartbeats 200000 in
theorem drawA_WD {D : Day} {x : Nat} (h : WD D) : WD (drawA D x) := by
  obtain ⟨h1, h2, h3, h4, h5, h6, h7⟩ := h
  refine ⟨fU_le (fun _ => Nat.zero_le _) (by omega), h2, h3, ?_, ?_, h6, h7⟩
  · show (if x % 7 = 0 then 1 else 0) ≤ 1
    split <;> decide
  · show (if x % 31 = 0 then 1 else 0) ≤ 1
    split <;> decide
set_option maxHeartbeats 200000 in
theorem yrA_ok {S : Sta} {D : Day} {seed : Nat} (hE : WE D) (hs : seed < 65537) : ∀ i, i ≤ 60 → (yrA S D seed i).1 < 65537 ∧ WD (yrA S D seed i).2.1 ∧ zdy (yrA S D seed i).2.1 = zdy D + i ∧ (yrA S D seed i).2.2.1 ≤ i ∧ (yrA S D seed i).2.2.2 ≤ 999
  | 0, _ => ⟨hs, hE.1, rfl, Nat.le_refl _, Nat.zero_le _⟩
  | i + 1, hi => by
    obtain ⟨h1, h2, h3, h4, h5⟩ := yrA_ok (S := S) hE hs i (by omega)
    have hy := hE.2.1
    refine ⟨lcA_lt _, drawA_WD (passA_WD h2 (by omega)), ?_, ?_, ?_⟩
    · show zdy (yrA S D seed i).2.1 + 1 = _
      omega
    · show (yrA S D seed i).2.2.1 + (if _ then 1 else 0) ≤ _
      split <;> omega
    · have := most3_le (zoff S) (drawA (passA (zoff S) (yrA S D seed i).2.1) (lcA (yrA S D seed i).1))
      show max _ _ ≤ _
      omega
def yearA (S : Sta) (D : Day) (p1 p2 p3 : Int32) : Int32 := if inR p1 0 9999 ∧ inR p2 1 60 ∧ inR p3 0 2 then (if p3 = 0 then nI (seeA (zoff S) (yrA S D p1.toNatClampNeg p2.toNatClampNeg).2.1 0 0 + seeA (zoff S) (yrA S D p1.toNatClampNeg p2.toNatClampNeg).2.1 1 0 + seeA (zoff S) (yrA S D p1.toNatClampNeg p2.toNatClampNeg).2.1 2 0) else if p3 = 1 then nI (yrA S D p1.toNatClampNeg p2.toNatClampNeg).2.2.1 else nI (yrA S D p1.toNatClampNeg p2.toNatClampNeg).2.2.2) else -2
set_option maxHeartbeats 200000 in
theorem rem_nI {x d : Nat} (hx : x < 2147483648) (h0 : 0 < d) (hd : d < 2147483648) : nI x - nI x / nI d * nI d = nI (x % d) := by
  rw [n_div hx h0 hd, n_mul, n_sub (Nat.div_mul_le_self x d)]
  congr 1
  have := Nat.div_add_mod x d
  have e : x / d * d = d * (x / d) := Nat.mul_comm _ _
  omega
set_option maxHeartbeats 200000 in
theorem pX3_draw {g : Gr} {S : Sta} {D : Day} {x : Nat} {Q : Gr → Prop} (hR : RG g S D) (hsh : ∀ j, zsh D j = 0) (hx : x < 65537) (h : ∀ g', RG g' S (drawA D x) → Q g') : wpX3_draw g (nI x) Q := by
  obtain ⟨r1, r2, r3, r4, r5, r6, r7, r8, r9, r10, r11, r12, r13⟩ := hR
  have m3 := rem_nI (x := x) (d := 3) (by omega) (by decide) (by decide)
  have m7 := rem_nI (x := x) (d := 7) (by omega) (by decide) (by decide)
  have m31 := rem_nI (x := x) (d := 31) (by omega) (by decide) (by decide)
  have d7 : nI x / 7 = nI (x / 7) := n_div (by omega) (by decide) (by decide)
  have m100 := rem_nI (x := x / 7) (d := 100) (by omega) (by decide) (by decide)
  have l3 : x % 3 < 3 := Nat.mod_lt _ (by decide)
  have b29 : ∀ f s : Nat, f ≤ 1 → s ≤ 1 → f = (if x % 7 = 0 then 1 else 0) → s = (if x % 31 = 0 then 1 else 0) → wpX3_draw_B29 Q (Gr_s_fog g (nI f)) (nI x) (nI s) := by
    intro f s hf hs ef es
    unfold wpX3_draw_B29
    rw [show nI x - nI x / 3 * 3 = nI (x % 3) from m3, d7, show nI (x / 7) - nI (x / 7) / 100 * 100 = nI (x / 7 % 100) from m100]
    refine ⟨?_, vp_in_nI l3 (by decide), h _ ⟨r1, r2, r3, r4, r5, r6, aI_cg (aI_up (v := x / 7 % 100) r7) (fun j hj => ?_), r8, r9, congrArg nI ef, congrArg nI es, r12, r13⟩⟩
    · rcases (show s = 0 ∨ s = 1 by omega) with rfl | rfl
      · exact Or.inl rfl
      · exact Or.inr rfl
    · show fU (zsh D) _ _ j = fU (fun _ => 0) _ _ j
      unfold fU
      split
      · rfl
      · exact hsh j
  have b13 : ∀ f : Nat, f ≤ 1 → f = (if x % 7 = 0 then 1 else 0) → wpX3_draw_B13 Q g (nI x) (nI f) := by
    intro f hf ef
    unfold wpX3_draw_B13
    rw [show nI x - nI x / 31 * 31 = nI (x % 31) from m31]
    refine ⟨?_, pk_ne (x % 31) 0 (fun q => ?_) (fun q => ?_)⟩
    · rcases (show f = 0 ∨ f = 1 by omega) with rfl | rfl
      · exact Or.inl rfl
      · exact Or.inr rfl
    · exact b29 f 0 hf (by decide) ef (by rw [if_neg q])
    · exact b29 f 1 hf (by decide) ef (by rw [if_pos q])
  unfold wpX3_draw
  rw [show nI x - nI x / 7 * 7 = nI (x % 7) from m7]
  refine pk_ne (x % 7) 0 (fun q => ?_) (fun q => ?_)
  · exact b13 0 (by decide) (by rw [if_neg q])
  · exact b13 1 (by decide) (by rw [if_pos q])
set_option maxHeartbeats 200000 in
theorem lc_nI {x : Nat} (hx : x < 65537) : 75 * nI x + 74 - (75 * nI x + 74) / 65537 * 65537 = nI (lcA x) := by
  have e : 75 * nI x + 74 = nI (75 * x + 74) := by simp (disch := omega) only [k_0, k_1, k_2, k_3, k_4, k_5, k_6, k_7, k_8, k_9, k_10, k_15, k_16, k_18, k_20, k_26, k_27, k_31, k_33, k_46, k_48, k_49, k_51, k_53, k_57, k_60, k_61, k_63, k_64, k_65, k_70, k_71, k_74, k_75, k_80, k_81, k_82, k_83, k_84, k_85, k_98, k_99, k_100, k_102, k_114, k_115, k_119, k_121, k_126, k_200, k_999, k_1000, k_3000, k_9999, k_65537, k_1000000, k_999999999, k_500, n_mul, n_add, n_sub, n_div]
  rw [e]
  exact rem_nI (x := 75 * x + 74) (d := 65537) (by omega) (by decide) (by decide)
set_option maxHeartbeats 200000 in
theorem pX6_year {g s : Gr} {S : Sta} {D : Day} {p1 p2 p3 : Int32} {Q : Int32 → Gr → Gr → Prop} (hR : RG g S D) (hS : WS S) (hE : WE D) (h : ∀ s', Q (yearA S D p1 p2 p3) g s') : wpX6_year g s p1 p2 p3 Q := by
  unfold yearA at h
  unfold wpX6_year
  refine ck1X6_isWithin (fun c1 => ?_) (fun c1 => ?_)
  · rw [if_neg (fun w => c1 w.1)] at h; exact h s
  refine ck1X6_isWithin (fun c2 => ?_) (fun c2 => ?_)
  · rw [if_neg (fun w => c2 w.2.1)] at h; exact h s
  refine ck2X6_isWithin (fun c3 => ?_) (fun c3 => ?_)
  · rw [if_pos ⟨c1, c2, c3⟩] at h
    obtain ⟨seed, hs9, rfl⟩ := inR_nI (n := 9999) (by decide) c1
    obtain ⟨d, hd1, hd6, rfl⟩ := inR_1 (n := 60) (by decide) c2
    rw [nI_clamp (show seed < 2 ^ 31 by omega), nI_clamp (show d < 2 ^ 31 by omega)] at h
    refine pX3_become hR hE.1 (fun s1 hs1 => ?_)
    have key : ∀ i, i ≤ d → ∃ n, ∀ s2 : Gr, RG s2 S (yrA S D seed i).2.1 → wpX6_year_L56 Q n g s2 (nI d) p3 (nI (yrA S D seed i).1) (nI (yrA S D seed i).2.2.1) (nI (yrA S D seed i).2.2.2) (nI i) := by
      refine up_loop d (fun n => ?_) (fun n i hi ih => ?_)
      · intro s2 y
        obtain ⟨o1, o2, o3, o4, o5⟩ := yrA_ok (S := S) (seed := seed) hE (by omega) d hd6
        show wpX6_year_H56 Q _ _ _ _ _ _ _ _ _
        unfold wpX6_year_H56
        refine br_t (nI_le (Nat.le_refl _) (by omega)) (bn_c (fun w => ?_) (fun w => ?_))
        · rw [if_neg w] at h
          refine bn_c (fun w2 => ?_) (fun w2 => ?_)
          · rw [if_neg w2] at h; exact h s2
          · rw [if_pos w2] at h; exact h s2
        · rw [if_pos w] at h
          refine pX3_seenToday (c := 0) (mo := 0) y hS o2 (by decide) (by decide) ?_
          refine pX3_seenToday (c := 1) (mo := 0) y hS o2 (by decide) (by decide) ?_
          refine pX3_seenToday (c := 2) (mo := 0) y hS o2 (by decide) (by decide) ?_
          rw [n_add, n_add]
          exact h s2
      · intro s2 y
        obtain ⟨o1, o2, o3, o4, o5⟩ := yrA_ok (S := S) (seed := seed) hE (by omega) i (by omega)
        have ok2 := yrA_ok (S := S) (seed := seed) hE (by omega) (i + 1) (by omega)
        have hy := hE.2.1
        show wpX6_year_H56 Q _ _ _ _ _ _ _ _ _
        unfold wpX6_year_H56
        rw [lc_nI o1]
        refine br_f (nI_ge hi (by omega)) (nm_e ?_)
        refine pX3_endDay y hS o2 (fun s3 y3 => ?_)
        refine pX3_draw y3 (fun j => rfl) (lcA_lt _) (fun s4 y4 => ?_)
        have m3 := most3_le (zoff S) (yrA S D seed (i + 1)).2.1
        have fin : ∀ b : Nat, (yrA S D seed i).2.2.1 + b = (yrA S D seed (i + 1)).2.2.1 → wpX6_year_B108 Q (wpX6_year_L56 Q n) g s4 (nI d) p3 (nI (lcA (yrA S D seed i).1)) (nI (yrA S D seed i).2.2.2) (nI i) (nI (yrA S D seed i).2.2.1) (nI b) := by
          intro b eb
          unfold wpX6_year_B108
          rw [n_add, eb]
          refine nm_e (pX3_mostSeen y4 hS ok2.2.1 ?_)
          have em := if_max (a := (yrA S D seed i).2.2.2) (b := most3 (zoff S) (yrA S D seed (i + 1)).2.1) (by omega) (by omega)
          refine nm_r (e' := nI (yrA S D seed (i + 1)).2.2.2) em (nm_r (nI_1 i) (ih s4 y4))
        refine pX3_isOver y4 hS ok2.2.1 (fun q => br_f one_ne (fin 1 ?_)) (fun q => br_t rfl (fin 0 ?_))
        · show _ = (yrA S D seed i).2.2.1 + (if _ then 1 else 0)
          rw [if_pos q]
        · show _ = (yrA S D seed i).2.2.1 + (if _ then 1 else 0)
          rw [if_neg q]
    obtain ⟨n, hn⟩ := key 0 (Nat.zero_le _)
    exact ⟨n, hn s1 hs1⟩
  · rw [if_neg (fun w => c3 w.2.2)] at h; exact h s
set_option maxHeartbeats 200000 in
theorem pX7_year {m : Mo} {S : Sta} {D : Day} {sg : Nat → Nat} {cnt : Nat} {I J : Nat → Int32} {p1 p2 p3 : Int32} {Q : Int32 → Mo → Prop} (hR : RMo m S D sg cnt I J) (hS : WS S) (hE : WE D) (h : ∀ m', FX m m' → Q (yearA S D p1 p2 p3) m') : wpX7_year m p1 p2 p3 Q := by
  unfold yearA at h
  unfold wpX7_year
  refine ck1X7_in (fun c1 => ?_) (fun c1 => ?_)
  · rw [if_neg (fun w => c1 w.1)] at h; exact h m FX.rf
  refine ck1X7_in (fun c2 => ?_) (fun c2 => ?_)
  · rw [if_neg (fun w => c2 w.2.1)] at h; exact h m FX.rf
  refine ck2X7_in (fun c3 => ?_) (fun c3 => ?_)
  · rw [if_pos ⟨c1, c2, c3⟩] at h
    obtain ⟨seed, hs9, rfl⟩ := inR_nI (n := 9999) (by decide) c1
    obtain ⟨d, hd1, hd6, rfl⟩ := inR_1 (n := 60) (by decide) c2
    rw [nI_clamp (show seed < 2 ^ 31 by omega), nI_clamp (show d < 2 ^ 31 by omega)] at h
    refine pX7_asNow hR.2.1 (fun m1 hF1 hN1 => ?_)
    have key : ∀ i, i ≤ d → ∃ n, ∀ m2 : Mo, FX m m2 → RN m2 (yrA S D seed i).2.1 → wpX7_year_L49 Q n m2 (nI d) p3 (nI (yrA S D seed i).1) (nI (yrA S D seed i).2.2.1) (nI (yrA S D seed i).2.2.2) (nI i) := by
      refine up_loop d (fun n => ?_) (fun n i hi ih => ?_)
      · intro m2 hF y
        obtain ⟨o1, o2, o3, o4, o5⟩ := yrA_ok (S := S) (seed := seed) hE (by omega) d hd6
        show wpX7_year_H49 Q _ _ _ _ _ _ _ _
        unfold wpX7_year_H49
        refine br_t (nI_le (Nat.le_refl _) (by omega)) (bn_c (fun w => ?_) (fun w => ?_))
        · rw [if_neg w] at h
          refine bn_c (fun w2 => ?_) (fun w2 => ?_)
          · rw [if_neg w2] at h; exact h m2 hF
          · rw [if_pos w2] at h; exact h m2 hF
        · rw [if_pos w] at h
          exact pX7_seeAll (hF.R hR).1 y hS o2 (h m2 hF)
      · intro m2 hF y
        obtain ⟨o1, o2, o3, o4, o5⟩ := yrA_ok (S := S) (seed := seed) hE (by omega) i (by omega)
        have ok2 := yrA_ok (S := S) (seed := seed) hE (by omega) (i + 1) (by omega)
        have hy := hE.2.1
        show wpX7_year_H49 Q _ _ _ _ _ _ _ _
        unfold wpX7_year_H49
        refine br_f (nI_ge hi (by omega)) ?_
        refine pX7_pass (hF.R hR).1 y hS o2 (fun m3 hF3 y3 => ?_)
        rw [lc_nI o1]
        refine nm_e ?_
        generalize hx : lcA (yrA S D seed i).1 = x
        have lx : x < 65537 := by rw [← hx]; exact lcA_lt _
        have r3 := rem_nI (x := x) (d := 3) (by omega) (by decide) (by decide)
        have r7 := rem_nI (x := x) (d := 7) (by omega) (by decide) (by decide)
        have r31 := rem_nI (x := x) (d := 31) (by omega) (by decide) (by decide)
        have d7 : nI x / 7 = nI (x / 7) := n_div (by omega) (by decide) (by decide)
        have r100 := rem_nI (x := x / 7) (d := 100) (by omega) (by decide) (by decide)
        have l3 : x % 3 < 3 := Nat.mod_lt _ (by decide)
        obtain ⟨n1, n2, n3, n4, n5, n6, n7⟩ := y3
        have ey : (yrA S D seed (i + 1)).2.1 = drawA (passA (zoff S) (yrA S D seed i).2.1) x := by rw [← hx]; rfl
        have ex : (yrA S D seed (i + 1)).1 = x := by rw [← hx]; rfl
        have b103 : ∀ f s : Nat, f = (if x % 7 = 0 then 1 else 0) → s = (if x % 31 = 0 then 1 else 0) → wpX7_year_B103 Q (wpX7_year_L49 Q n) (Mo_s_fogNow m3 (nI f)) (nI d) p3 (nI x) (nI (yrA S D seed i).2.2.1) (nI (yrA S D seed i).2.2.2) (nI i) (nI s) := by
          intro f s ef es
          unfold wpX7_year_B103
          rw [show nI x - nI x / 3 * 3 = nI (x % 3) from r3, d7, show nI (x / 7) - nI (x / 7) / 100 * 100 = nI (x / 7 % 100) from r100]
          refine ⟨vp_in_nI l3 (by decide), vp_in_nI l3 (by decide), ?_⟩
          have e0 : Mo_shown (Mo_s_fogNow m3 (nI f)) (nI (x % 3)).toNatClampNeg + nI (x / 7 % 100) = nI (x / 7 % 100) := by
            rw [show Mo_shown (Mo_s_fogNow m3 (nI f)) (nI (x % 3)).toNatClampNeg = nI 0 from aI_rd n1 l3, n_add, Nat.zero_add]
          rw [e0]
          generalize hm4 : Mo_s_shown (Mo_s_snowNow (Mo_s_fogNow m3 (nI f)) (nI s)) (upd (Mo_shown (Mo_s_fogNow m3 (nI f))) (nI (x % 3)).toNatClampNeg (nI (x / 7 % 100))) = m4
          have hF4 : FX m m4 := by
            rw [← hm4]
            exact (hF.trans hF3.X).trans (FN.X (((FN.rf.fog _).snow _).shown _))
          have y4 : RN m4 (yrA S D seed (i + 1)).2.1 := by
            rw [← hm4, ey]
            exact ⟨aI_up n1, n2, n3, congrArg nI ef, congrArg nI es, n6, n7⟩
          have hM4 := (hF4.R hR).1
          have s0 := seeA_le (zoff S) (yrA S D seed (i + 1)).2.1
          have mx : ∀ a, a ≤ 999 → ∀ c, c < 3 → ∀ (K : Mo → Int32 → Int32 → Int32 → Int32 → Int32 → Int32 → Prop) k b, wpX7_year_L146 Q K k m4 (nI d) p3 (nI x) b (nI (max a (seeA (zoff S) (yrA S D seed (i + 1)).2.1 c 0))) (nI i) (nI (c + 1)) → wpX7_year_L146 Q K (k + 1) m4 (nI d) p3 (nI x) b (nI a) (nI i) (nI c) := by
            intro a ha c hc K k b w
            show wpX7_year_H146 Q _ _ _ _ _ _ _ _ _ _
            unfold wpX7_year_H146
            have sc := s0 c 0
            refine br_f (nI_ge hc (by decide)) (pX7_see hM4 y4 hS ok2.2.1 hc ?_)
            refine pk_le (seeA (zoff S) (yrA S D seed (i + 1)).2.1 c 0) a (fun v => ?_) (fun v => ?_)
            · unfold wpX7_year_B174
              refine nm_r (nI_1 c) ?_
              rw [Nat.max_eq_left v] at w
              exact w
            · refine pX7_see hM4 y4 hS ok2.2.1 hc ?_
              unfold wpX7_year_B174
              refine nm_r (nI_1 c) ?_
              rw [Nat.max_eq_right (by omega)] at w
              exact w
          have fin : ∀ b : Nat, (yrA S D seed i).2.2.1 + b = (yrA S D seed (i + 1)).2.2.1 → wpX7_year_B140 Q (wpX7_year_L49 Q n) m4 (nI d) p3 (nI x) (nI (yrA S D seed i).2.2.2) (nI i) (nI (yrA S D seed i).2.2.1) (nI b) := by
            intro b eb
            unfold wpX7_year_B140
            rw [n_add, eb]
            have a0 := s0 0 0
            have a1 := s0 1 0
            have a2 := s0 2 0
            refine nm_e ⟨4, mx _ o5 0 (by decide) _ 3 _ (mx _ (by omega) 1 (by decide) _ 2 _ (mx _ (by omega) 2 (by decide) _ 1 _ ?_))⟩
            show wpX7_year_H146 Q _ _ _ _ _ _ _ _ _ _
            unfold wpX7_year_H146
            refine br_t (by decide) (nm_r (nI_1 i) ?_)
            have w := ih m4 hF4 y4
            rw [ex] at w
            have em : (yrA S D seed (i + 1)).2.2.2 = max (max (max (yrA S D seed i).2.2.2 (seeA (zoff S) (yrA S D seed (i + 1)).2.1 0 0)) (seeA (zoff S) (yrA S D seed (i + 1)).2.1 1 0)) (seeA (zoff S) (yrA S D seed (i + 1)).2.1 2 0) := by
              show max (yrA S D seed i).2.2.2 (most3 (zoff S) (yrA S D seed (i + 1)).2.1) = _
              unfold most3
              omega
            rw [em] at w
            exact w
          refine pX7_isOver hM4 y4 hS ok2.2.1 (fun q => br_f one_ne (fin 1 ?_)) (fun q => br_t rfl (fin 0 ?_))
          · show _ = (yrA S D seed i).2.2.1 + (if overA (zoff S) (zlim S) (yrA S D seed (i + 1)).2.1 then 1 else 0)
            rw [if_pos q]
          · show _ = (yrA S D seed i).2.2.1 + (if overA (zoff S) (zlim S) (yrA S D seed (i + 1)).2.1 then 1 else 0)
            rw [if_neg q]
        have b86 : ∀ f : Nat, f = (if x % 7 = 0 then 1 else 0) → wpX7_year_B86 Q (wpX7_year_L49 Q n) m3 (nI d) p3 (nI x) (nI (yrA S D seed i).2.2.1) (nI (yrA S D seed i).2.2.2) (nI i) (nI f) := by
          intro f ef
          unfold wpX7_year_B86
          rw [show nI x - nI x / 31 * 31 = nI (x % 31) from r31]
          refine pk_ne (x % 31) 0 (fun q => b103 f 0 ef ?_) (fun q => b103 f 1 ef ?_)
          · rw [if_neg q]
          · rw [if_pos q]
        rw [show nI x - nI x / 7 * 7 = nI (x % 7) from r7]
        refine pk_ne (x % 7) 0 (fun q => b86 0 ?_) (fun q => b86 1 ?_)
        · rw [if_neg q]
        · rw [if_pos q]
    obtain ⟨n, hn⟩ := key 0 (Nat.zero_le _)
    exact ⟨n, hn m1 hF1.X hN1⟩
  · rw [if_neg (fun w => c3 w.2.2)] at h; exact h m FX.rf
