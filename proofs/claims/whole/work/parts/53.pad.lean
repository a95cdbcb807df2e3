/-! the pad: its grammar -/
set_option maxHeartbeats 200000 in
theorem inR_iff {x a b : Nat} (hx : x < 2147483648) (ha : a < 2147483648) (hb : b < 2147483648) : inR (nI x) (nI a) (nI b) ↔ a ≤ x ∧ x ≤ b := by
  show (¬ nI x < nI a ∧ ¬ nI b < nI x) ↔ _
  rw [nI_ltI hx ha, nI_ltI hb hx]
  omega
abbrev takes (s : Nat) : Prop := s = 114 ∨ s = 121 ∨ s = 98 ∨ s = 119
abbrev alone (s : Nat) : Prop := (65 ≤ s ∧ s ≤ 70) ∨ s = 102 ∨ s = 115 ∨ s = 46
abbrev digOk (h x : Nat) : Prop := (h = 119 ∧ 48 ≤ x ∧ x ≤ 51) ∨ (h ≠ 119 ∧ 49 ≤ x ∧ x ≤ 57)
set_option maxHeartbeats 200000 in
theorem pX5_colourOf {s : Nat} {Q : Int32 → Prop} (hs : s < 1000) (h0 : s = 114 → Q 0) (h1 : s = 121 → Q 1) (h2 : s = 98 → Q 2) (hn : s ≠ 114 → s ≠ 121 → s ≠ 98 → Q (-6)) : wpX5_colourOf (nI s) Q := by
  unfold wpX5_colourOf
  refine pk_eq s 98 (fun q => h2 q) (fun q => ?_)
  refine pk_eq s 114 (fun q => h0 q) (fun q2 => ?_)
  exact pk_eq s 121 (fun q => h1 q) (fun q3 => hn q2 q3 q)
set_option maxHeartbeats 200000 in
theorem pX7_colourOf {s : Nat} {Q : Int32 → Prop} (hs : s < 1000) (h0 : s = 114 → Q 0) (h1 : s = 121 → Q 1) (h2 : s = 98 → Q 2) (hn : s ≠ 114 → s ≠ 121 → s ≠ 98 → Q (-6)) : wpX7_colourOf (nI s) Q := by
  unfold wpX7_colourOf
  refine pk_ne s 114 (fun q => ?_) (fun q => h0 q)
  refine pk_ne s 121 (fun q2 => ?_) (fun q2 => h1 q2)
  exact pk_ne s 98 (fun q3 => hn q q2 q3) (fun q3 => h2 q3)
set_option maxHeartbeats 200000 in
theorem pX5_takesDigit {s : Nat} {Q : Int32 → Prop} (hs : s < 1000) (h1 : takes s → Q 1) (h0 : ¬ takes s → Q 0) : wpX5_takesDigit (nI s) Q := by
  unfold wpX5_takesDigit
  refine pX5_colourOf hs (fun q => ?_) (fun q => ?_) (fun q => ?_) (fun q1 q2 q3 => ?_)
  · exact bn_t (by decide) (h1 (Or.inl q))
  · exact bn_t (by decide) (h1 (Or.inr (Or.inl q)))
  · exact bn_t (by decide) (h1 (Or.inr (Or.inr (Or.inl q))))
  · refine bn_f rfl (pk_ne s 119 (fun q4 => h0 ?_) (fun q4 => h1 (Or.inr (Or.inr (Or.inr q4)))))
    intro w
    rcases w with w | w | w | w
    · exact q1 w
    · exact q2 w
    · exact q3 w
    · exact q4 w
set_option maxHeartbeats 200000 in
theorem nI_ne6 {x : Nat} (h : x < 2147483648) : ¬ nI x = -6 := fun q => by
  have h1 : (nI x).toInt = (-6 : Int32).toInt := by rw [q]
  rw [nI_toInt h] at h1
  have : ((-6 : Int32).toInt) = -6 := by decide
  omega
set_option maxHeartbeats 200000 in
theorem pX5_dressOf {s : Nat} {Q : Int32 → Prop} (hs : s < 1000) (h1 : 65 ≤ s → s ≤ 70 → Q (nI (s - 65))) (h0 : ¬ (65 ≤ s ∧ s ≤ 70) → Q (-6)) : wpX5_dressOf (nI s) Q := by
  unfold wpX5_dressOf
  refine pk_lt s 65 (fun q => h0 (by omega)) (fun q => ?_)
  refine pk_le 71 s (fun q2 => h0 (by omega)) (fun q2 => ?_)
  have e : nI s - 65 = nI (s - 65) := by simp (disch := omega) only [k_0, k_1, k_2, k_3, k_4, k_5, k_6, k_7, k_8, k_9, k_10, k_15, k_16, k_18, k_20, k_26, k_27, k_31, k_33, k_46, k_48, k_49, k_51, k_53, k_57, k_60, k_61, k_63, k_64, k_65, k_70, k_71, k_74, k_75, k_80, k_81, k_82, k_83, k_84, k_85, k_98, k_99, k_100, k_102, k_114, k_115, k_119, k_121, k_126, k_200, k_999, k_1000, k_3000, k_9999, k_65537, k_1000000, k_999999999, k_500, n_mul, n_add, n_sub, n_div]
  rw [e]
  exact h1 q (by omega)
set_option maxHeartbeats 200000 in
theorem pX5_standsAlone {s : Nat} {Q : Int32 → Prop} (hs : s < 1000) (h1 : alone s → Q 1) (h0 : ¬ alone s → Q 0) : wpX5_standsAlone (nI s) Q := by
  unfold wpX5_standsAlone
  refine pX5_dressOf hs (fun q1 q2 => bn_t (nI_ne6 (by omega)) (h1 (Or.inl ⟨q1, q2⟩))) (fun q => bn_f rfl ?_)
  refine pk_eq s 102 (fun q2 => h1 (Or.inr (Or.inl q2))) (fun q2 => ?_)
  refine pk_eq s 115 (fun q3 => h1 (Or.inr (Or.inr (Or.inl q3)))) (fun q3 => ?_)
  refine pk_ne s 46 (fun q4 => h0 ?_) (fun q4 => h1 (Or.inr (Or.inr (Or.inr q4))))
  intro w
  rcases w with w | w | w | w
  · exact q w
  · exact q2 w
  · exact q3 w
  · exact q4 w
set_option maxHeartbeats 200000 in
theorem pX5_isDigitOf {s x : Nat} {Q : Int32 → Prop} (hs : s < 1000) (hx : x < 1000) (h1 : digOk s x → Q 1) (h0 : ¬ digOk s x → Q 0) : wpX5_isDigitOf (nI s) (nI x) Q := by
  unfold wpX5_isDigitOf
  refine pk_ne s 119 (fun q => ?_) (fun q => ?_)
  · refine pX6_isWithin (fun c => ⟨Or.inr rfl, h1 (Or.inr ⟨q, (inR_iff (a := 49) (b := 57) (by omega) (by decide) (by decide)).mp c⟩)⟩) (fun c => ⟨Or.inl rfl, h0 (fun w => c ?_)⟩)
    rcases w with w | w
    · exact absurd w.1 q
    · exact (inR_iff (a := 49) (b := 57) (by omega) (by decide) (by decide)).mpr w.2
  · refine pX6_isWithin (fun c => ⟨Or.inr rfl, h1 (Or.inl ⟨q, (inR_iff (a := 48) (b := 51) (by omega) (by decide) (by decide)).mp c⟩)⟩) (fun c => ⟨Or.inl rfl, h0 (fun w => c ?_)⟩)
    rcases w with w | w
    · exact (inR_iff (a := 48) (b := 51) (by omega) (by decide) (by decide)).mpr w.2
    · exact absurd q w.1
/-- the fault from a place on -/
def flt (sg : Nat → Nat) (cnt : Nat) : Nat → Nat → Int32
  | 0, _ => -6
  | n + 1, p => if cnt ≤ p then -6 else if takes (sg p) then (if cnt ≤ p + 1 then nI cnt else if digOk (sg p) (sg (p + 1)) then flt sg cnt n (p + 2) else nI (p + 1)) else if alone (sg p) then flt sg cnt n (p + 1) else nI p
set_option maxHeartbeats 200000 in
theorem pX5_faultPlace {v : Pd} {sg : Nat → Nat} {cnt : Nat} {Q : Int32 → Pd → Prop} (hR : RPd v sg cnt) (hs : ∀ j, 0 ≤ sg j ∧ sg j ≤ 126) (hc : cnt ≤ 60) (h : Q (flt sg cnt 61 0) v) : wpX5_faultPlace v Q := by
  unfold wpX5_faultPlace
  have key : ∀ n p, cnt ≤ p + n → p < 1000 → Q (flt sg cnt (n + 1) p) v → wpX5_faultPlace_L2 Q (n + 1) v (nI p) := by
    intro n
    induction n with
    | zero =>
      intro p hp hp2 hq
      show wpX5_faultPlace_H2 Q _ _ _
      unfold wpX5_faultPlace_H2
      have e : flt sg cnt 1 p = -6 := if_pos hp
      rw [e] at hq
      rw [hR.2]
      exact br_t (nI_le hp (by omega)) hq
    | succ n ih =>
      intro p hp hp2 hq
      show wpX5_faultPlace_H2 Q _ _ _
      unfold wpX5_faultPlace_H2
      have e : flt sg cnt (n + 1 + 1) p = if cnt ≤ p then -6 else if takes (sg p) then (if cnt ≤ p + 1 then nI cnt else if digOk (sg p) (sg (p + 1)) then flt sg cnt (n + 1) (p + 2) else nI (p + 1)) else if alone (sg p) then flt sg cnt (n + 1) (p + 1) else nI p := rfl
      rw [e] at hq
      rw [hR.2]
      refine pk_le cnt p (fun q => ?_) (fun q => ?_)
      · rw [if_pos q] at hq; exact hq
      · rw [if_neg (by omega)] at hq
        have b1 := hs p
        have b2 := hs (p + 1)
        rw [aI_rd hR.1 (show p < 60 by omega)]
        refine ⟨vp_in_nI (by omega) (by decide), nm_e ?_⟩
        unfold wpX5_faultPlace_B64
        refine pX5_takesDigit (by omega) (fun q1 => br_f one_ne ?_) (fun q1 => br_t rfl ?_)
        · rw [if_pos q1] at hq
          refine nm_r (nI_1 p) ?_
          refine pk_lt (p + 1) cnt (fun q2 => ?_) (fun q2 => ?_)
          · rw [if_neg (by omega)] at hq
            rw [aI_rd hR.1 (show p + 1 < 60 by omega)]
            refine ⟨vp_in_nI (by omega) (by decide), ?_⟩
            refine pX5_isDigitOf (by omega) (by omega) (fun q3 => bn_t one_ne ?_) (fun q3 => bn_f rfl ?_)
            · rw [if_pos q3] at hq
              exact nm_r (nI_1 (p + 1)) (ih (p + 2) (by omega) (by omega) hq)
            · rw [if_neg q3] at hq; exact hq
          · rw [if_pos (by omega)] at hq; exact hq
        · rw [if_neg q1] at hq
          refine pX5_standsAlone (by omega) (fun q2 => bn_t one_ne ?_) (fun q2 => bn_f rfl ?_)
          · rw [if_pos q2] at hq
            exact nm_r (nI_1 p) (ih (p + 1) (by omega) (by omega) hq)
          · rw [if_neg q2] at hq; exact hq
  exact ⟨61, key 60 0 (by omega) (by decide) h⟩
set_option maxHeartbeats 200000 in
theorem pX7_faultOf {m : Mo} {S : Sta} {D : Day} {sg : Nat → Nat} {cnt : Nat} {I J : Nat → Int32} {Q : Int32 → Mo → Prop} (hR : RMo m S D sg cnt I J) (hs : ∀ j, 0 ≤ sg j ∧ sg j ≤ 126) (hc : cnt ≤ 60) (h : Q (flt sg cnt 61 0) m) : wpX7_faultOf m Q := by
  obtain ⟨-, -, -, -, hcnt, hpad, -⟩ := hR
  unfold wpX7_faultOf
  -- what a sign is, whatever the state
  have body : ∀ (K : Mo → Int32 → Int32 → Prop) (x1 x2 : Int32) (x : Nat), x < 1000 → ((takes x ∨ alone x) → wpX7_faultOf_B66 Q K m x1 x2 (nI x) 1) → (¬ (takes x ∨ alone x) → wpX7_faultOf_B66 Q K m x1 x2 (nI x) 0) → wpX7_colourOf (nI x) (fun r_2 => ((0 ≤ r_2 → wpX7_faultOf_B61 Q K m x1 x2 (nI x)) ∧ (¬ 0 ≤ r_2 → (wpX7_in (nI x) 65 70 (fun r_3 => ((¬ r_3 = 0 → wpX7_faultOf_B61 Q K m x1 x2 (nI x)) ∧ (r_3 = 0 → ((nI x = 102 → wpX7_faultOf_B61 Q K m x1 x2 (nI x)) ∧ (¬ nI x = 102 → ((nI x = 115 → wpX7_faultOf_B61 Q K m x1 x2 (nI x)) ∧ (¬ nI x = 115 → ((nI x = 119 → wpX7_faultOf_B61 Q K m x1 x2 (nI x)) ∧ (¬ nI x = 119 → ((¬ nI x = 46 → wpX7_faultOf_B66 Q K m x1 x2 (nI x) 0) ∧ (nI x = 46 → wpX7_faultOf_B61 Q K m x1 x2 (nI x)))))))))))))))) := by
    intro K x1 x2 x hx h1 h0
    unfold wpX7_faultOf_B61
    refine pX7_colourOf hx (fun q => ?_) (fun q => ?_) (fun q => ?_) (fun q1 q2 q3 => ?_)
    · exact br_t (by decide) (h1 (Or.inl (Or.inl q)))
    · exact br_t (by decide) (h1 (Or.inl (Or.inr (Or.inl q))))
    · exact br_t (by decide) (h1 (Or.inl (Or.inr (Or.inr (Or.inl q)))))
    · refine br_f (by decide) (ck2X7_in (fun c => h1 (Or.inr (Or.inl ((inR_iff (a := 65) (b := 70) (by omega) (by decide) (by decide)).mp c)))) (fun c => ?_))
      refine pk_eq x 102 (fun q => h1 (Or.inr (Or.inr (Or.inl q)))) (fun q4 => ?_)
      refine pk_eq x 115 (fun q => h1 (Or.inr (Or.inr (Or.inr (Or.inl q))))) (fun q5 => ?_)
      refine pk_eq x 119 (fun q => h1 (Or.inl (Or.inr (Or.inr (Or.inr q))))) (fun q6 => ?_)
      refine pk_ne x 46 (fun q7 => h0 ?_) (fun q => h1 (Or.inr (Or.inr (Or.inr (Or.inr q)))))
      intro w
      rcases w with (w | w | w | w) | (w | w | w | w)
      · exact q1 w
      · exact q2 w
      · exact q3 w
      · exact q6 w
      · exact c ((inR_iff (a := 65) (b := 70) (by omega) (by decide) (by decide)).mpr w)
      · exact q4 w
      · exact q5 w
      · exact q7 w
  have key : ∀ n p, cnt ≤ p + n → p < 1000 → Q (flt sg cnt (n + 1) p) m → ∃ k, wpX7_faultOf_L4 Q k m (nI 0) (nI p) := by
    intro n
    induction n with
    | zero =>
      intro p hp hp2 hq
      refine ⟨1, ?_⟩
      show wpX7_faultOf_H4 Q _ _ _ _
      unfold wpX7_faultOf_H4
      have e : flt sg cnt 1 p = -6 := if_pos hp
      rw [e] at hq
      rw [hcnt]
      exact br_t (nI_le hp (by omega)) (bn_f rfl hq)
    | succ n ih =>
      intro p hp hp2 hq
      have e : flt sg cnt (n + 1 + 1) p = if cnt ≤ p then -6 else if takes (sg p) then (if cnt ≤ p + 1 then nI cnt else if digOk (sg p) (sg (p + 1)) then flt sg cnt (n + 1) (p + 2) else nI (p + 1)) else if alone (sg p) then flt sg cnt (n + 1) (p + 1) else nI p := rfl
      rw [e] at hq
      have b1 := hs p
      have b2 := hs (p + 1)
      by_cases q : cnt ≤ p
      · rw [if_pos q] at hq
        refine ⟨1, ?_⟩
        show wpX7_faultOf_H4 Q _ _ _ _
        unfold wpX7_faultOf_H4
        rw [hcnt]
        exact br_t (nI_le q (by omega)) (bn_f rfl hq)
      rw [if_neg q] at hq
      -- one step from state 0, given what lies behind it
      have step : ∀ k, (¬ (takes (sg p) ∨ alone (sg p)) → Q (nI p) m) → (takes (sg p) → sg p ≠ 119 → wpX7_faultOf_L4 Q k m (nI 1) (nI (p + 1))) → (sg p = 119 → wpX7_faultOf_L4 Q k m (nI 2) (nI (p + 1))) → (¬ takes (sg p) → alone (sg p) → wpX7_faultOf_L4 Q k m (nI 0) (nI (p + 1))) → wpX7_faultOf_L4 Q (k + 1) m (nI 0) (nI p) := by
        intro k h1 h2 h3 h4
        show wpX7_faultOf_H4 Q _ _ _ _
        unfold wpX7_faultOf_H4
        rw [hcnt, aI_rd hpad (show p < 60 by omega)]
        refine br_f (nI_ge (by omega) (by omega)) ⟨vp_in_nI (by omega) (by decide), nm_e (body _ _ _ _ (by omega) (fun w => ?_) (fun w => ?_))⟩
        · unfold wpX7_faultOf_B66
          refine bn_f rfl ?_
          unfold wpX7_faultOf_B101 wpX7_faultOf_B140
          refine bn_t one_ne (br_t rfl ?_)
          refine pX7_colourOf (by omega) (fun c => ?_) (fun c => ?_) (fun c => ?_) (fun c1 c2 c3 => ?_)
          · exact br_f (by decide) (nm_r (nI_1 p) (h2 (Or.inl c) (by omega)))
          · exact br_f (by decide) (nm_r (nI_1 p) (h2 (Or.inr (Or.inl c)) (by omega)))
          · exact br_f (by decide) (nm_r (nI_1 p) (h2 (Or.inr (Or.inr (Or.inl c))) (by omega)))
          · refine br_t (by decide) (pk_ne (sg p) 119 (fun c4 => ?_) (fun c4 => nm_r (nI_1 p) (h3 c4)))
            have nt : ¬ takes (sg p) := by
              intro t
              rcases t with t | t | t | t
              · exact c1 t
              · exact c2 t
              · exact c3 t
              · exact c4 t
            exact nm_r (nI_1 p) (h4 nt (w.elim (fun t => absurd t nt) (fun t => t)))
        · unfold wpX7_faultOf_B66
          refine bn_f rfl ?_
          unfold wpX7_faultOf_B101
          exact bn_f rfl (h1 w)
      by_cases q1 : takes (sg p)
      · rw [if_pos q1] at hq
        -- the digit's place, in state st
        have dig : ∀ st, (st = 1 ∧ sg p ≠ 119) ∨ (st = 2 ∧ sg p = 119) → ∃ k, wpX7_faultOf_L4 Q k m (nI st) (nI (p + 1)) := by
          intro st hst
          have hst0 : ¬ nI st = 0 := by
            rcases hst with ⟨rfl, -⟩ | ⟨rfl, -⟩ <;> decide
          by_cases q2 : cnt ≤ p + 1
          · rw [if_pos q2] at hq
            refine ⟨1, ?_⟩
            show wpX7_faultOf_H4 Q _ _ _ _
            unfold wpX7_faultOf_H4
            rw [hcnt]
            exact br_t (nI_le q2 (by omega)) (bn_t hst0 hq)
          · rw [if_neg q2] at hq
            have goB : ∀ k, (digOk (sg p) (sg (p + 1)) → wpX7_faultOf_L4 Q k m (nI 0) (nI (p + 2))) → (¬ digOk (sg p) (sg (p + 1)) → Q (nI (p + 1)) m) → wpX7_faultOf_L4 Q (k + 1) m (nI st) (nI (p + 1)) := by
              intro k g1 g0
              show wpX7_faultOf_H4 Q _ _ _ _
              unfold wpX7_faultOf_H4
              rw [hcnt, aI_rd hpad (show p + 1 < 60 by omega)]
              have fin : ∀ s0, wpX7_faultOf_B66 Q (wpX7_faultOf_L4 Q k) m (nI st) (nI (p + 1)) (nI (sg (p + 1))) s0 := by
                intro s0
                unfold wpX7_faultOf_B66
                refine bn_t hst0 ?_
                have y1 : digOk (sg p) (sg (p + 1)) → wpX7_faultOf_B101 Q (wpX7_faultOf_L4 Q k) m (nI st) (nI (p + 1)) (nI (sg (p + 1))) 1 := by
                  intro c
                  unfold wpX7_faultOf_B101 wpX7_faultOf_B140
                  exact bn_t one_ne (br_f hst0 (nm_r (nI_1 (p + 1)) (g1 c)))
                have y0 : ¬ digOk (sg p) (sg (p + 1)) → wpX7_faultOf_B101 Q (wpX7_faultOf_L4 Q k) m (nI st) (nI (p + 1)) (nI (sg (p + 1))) 0 := by
                  intro c
                  unfold wpX7_faultOf_B101
                  exact bn_f rfl (g0 c)
                rcases hst with ⟨rfl, hw⟩ | ⟨rfl, hw⟩
                · refine bn_f rfl (pX7_in (fun c => y1 (Or.inr ⟨hw, (inR_iff (a := 49) (b := 57) (by omega) (by decide) (by decide)).mp c⟩)) (fun c => y0 (fun w => c ?_)))
                  rcases w with w | w
                  · exact absurd w.1 hw
                  · exact (inR_iff (a := 49) (b := 57) (by omega) (by decide) (by decide)).mpr w.2
                · refine bn_t (by decide) (pX7_in (fun c => y1 (Or.inl ⟨hw, (inR_iff (a := 48) (b := 51) (by omega) (by decide) (by decide)).mp c⟩)) (fun c => y0 (fun w => c ?_)))
                  rcases w with w | w
                  · exact (inR_iff (a := 48) (b := 51) (by omega) (by decide) (by decide)).mpr w.2
                  · exact absurd hw w.1
              exact br_f (nI_ge (by omega) (by omega)) ⟨vp_in_nI (by omega) (by decide), nm_e (body _ _ _ _ (by omega) (fun _ => fin 1) (fun _ => fin 0))⟩
            by_cases q3 : digOk (sg p) (sg (p + 1))
            · rw [if_pos q3] at hq
              obtain ⟨k, hk⟩ := ih (p + 2) (by omega) (by omega) hq
              exact ⟨k + 1, goB k (fun _ => hk) (fun w => absurd q3 w)⟩
            · rw [if_neg q3] at hq
              exact ⟨1, goB 0 (fun w => absurd w q3) (fun _ => hq)⟩
        by_cases q4 : sg p = 119
        · obtain ⟨k, hk⟩ := dig 2 (Or.inr ⟨rfl, q4⟩)
          exact ⟨k + 1, step k (fun w => absurd (Or.inl q1) w) (fun _ w => absurd q4 w) (fun _ => hk) (fun w => absurd q1 w)⟩
        · obtain ⟨k, hk⟩ := dig 1 (Or.inl ⟨rfl, q4⟩)
          exact ⟨k + 1, step k (fun w => absurd (Or.inl q1) w) (fun _ _ => hk) (fun w => absurd w q4) (fun w => absurd q1 w)⟩
      · rw [if_neg q1] at hq
        have n119 : sg p ≠ 119 := fun w => q1 (Or.inr (Or.inr (Or.inr w)))
        by_cases q2 : alone (sg p)
        · rw [if_pos q2] at hq
          obtain ⟨k, hk⟩ := ih (p + 1) (by omega) (by omega) hq
          exact ⟨k + 1, step k (fun w => absurd (Or.inr q2) w) (fun w => absurd w q1) (fun w => absurd w n119) (fun _ _ => hk)⟩
        · rw [if_neg q2] at hq
          exact ⟨1, step 0 (fun _ => hq) (fun w => absurd w q1) (fun w => absurd w n119) (fun _ w => absurd w q2)⟩
  exact key 60 0 (by omega) (by decide) h
