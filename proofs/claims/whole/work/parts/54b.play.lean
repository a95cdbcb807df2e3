/-! days played: the gorge's side -/
set_option maxHeartbeats 200000 in
theorem ok_step {sg : Nat → Nat} {cnt n p : Nat} (hf : flt sg cnt (n + 1) p = -6) (hp : p < cnt) (hc : cnt ≤ 60) : dgA sg p ≤ 9 ∧ (sg p = 119 → dgA sg p ≤ 3) ∧ (takes (sg p) ∨ alone (sg p)) ∧ (takes (sg p) → p + 1 < cnt ∧ 48 ≤ sg (p + 1) ∧ dgA sg p = sg (p + 1) - 48) ∧ flt sg cnt n (p + lenA sg p) = -6 := by
  unfold dgA lenA
  rcases flt_ok hf hp hc with ⟨t, q1, q2, q3⟩ | ⟨t, q1, q2⟩
  · rw [if_pos t, if_pos t]
    refine ⟨?_, fun w => ?_, Or.inl t, fun _ => ⟨q1, ?_, rfl⟩, q3⟩
    · rcases q2 with q2 | q2 <;> omega
    · rcases q2 with q2 | q2 <;> omega
    · rcases q2 with q2 | q2 <;> omega
  · rw [if_neg t, if_neg t]
    exact ⟨by decide, fun _ => by decide, Or.inr q1, fun w => absurd w t, q2⟩
set_option maxHeartbeats 200000 in
theorem playA_end {S : Sta} {sg : Nat → Nat} {cnt d0 n p a : Nat} {D : Day} {b : Option Nat} (h : cnt ≤ p) : playA S sg cnt d0 n p a D b = (0, a, D, noteA S d0 D b) := by
  cases n with
  | zero => rfl
  | succ n => exact if_pos h
set_option maxHeartbeats 200000 in
theorem playA_go {S : Sta} {sg : Nat → Nat} {cnt d0 n p a : Nat} {D : Day} {b : Option Nat} (h : p < cnt) (h2 : hinA S D (sg p) (dgA sg p) = 0) : playA S sg cnt d0 (n + 1) p a D b = playA S sg cnt d0 n (p + lenA sg p) (a + 1) (actA S D (sg p) (dgA sg p)) (if sg p = 46 then noteA S d0 D b else b) := by
  show (if cnt ≤ p then _ else if hinA S D (sg p) (dgA sg p) = 0 then _ else _) = _
  rw [if_neg (by omega), if_pos h2]
set_option maxHeartbeats 200000 in
theorem playA_no {S : Sta} {sg : Nat → Nat} {cnt d0 n p a : Nat} {D : Day} {b : Option Nat} (h : p < cnt) (h2 : ¬ hinA S D (sg p) (dgA sg p) = 0) : playA S sg cnt d0 (n + 1) p a D b = (hinA S D (sg p) (dgA sg p), a, D, b) := by
  show (if cnt ≤ p then _ else if hinA S D (sg p) (dgA sg p) = 0 then _ else _) = _
  rw [if_neg (by omega), if_neg h2]
set_option maxHeartbeats 200000 in
theorem lenA_le {sg : Nat → Nat} {p : Nat} : 1 ≤ lenA sg p ∧ lenA sg p ≤ 2 := by
  unfold lenA; split <;> decide
set_option maxHeartbeats 200000 in
theorem noteA_le {S : Sta} {d0 : Nat} {D : Day} {b : Option Nat} (hy : zdy D ≤ 99) (hb : ∀ x, b = some x → x ≤ 99) : ∀ x, noteA S d0 D b = some x → x ≤ 99 := by
  intro x hx
  cases b with
  | some y => exact hb x hx
  | none =>
    unfold noteA at hx
    by_cases q : overA (zoff S) (zlim S) D
    · rw [if_pos q] at hx
      have e : zdy D - d0 = x := Option.some.inj hx
      omega
    · rw [if_neg q] at hx
      exact absurd hx (fun w => nomatch w)
set_option maxHeartbeats 200000 in
theorem hinA_le {S : Sta} {D : Day} {s x : Nat} : hinA S D s x ≤ 4 := by
  unfold hinA hdA
  repeat' split
  all_goals omega
set_option maxHeartbeats 200000 in
theorem playA_ok {S : Sta} {sg : Nat → Nat} {cnt d0 : Nat} (hS : WS S) (hc : cnt ≤ 60) : ∀ n p a (D : Day) b, flt sg cnt n p = -6 → cnt ≤ p + n → WE D → d0 ≤ zdy D → (∀ x, b = some x → x ≤ 99) → WE (playA S sg cnt d0 n p a D b).2.2.1 ∧ d0 ≤ zdy (playA S sg cnt d0 n p a D b).2.2.1 ∧ (playA S sg cnt d0 n p a D b).2.1 ≤ a + n ∧ (playA S sg cnt d0 n p a D b).1 ≤ 4 ∧ (∀ x, (playA S sg cnt d0 n p a D b).2.2.2 = some x → x ≤ 99) := by
  intro n
  induction n with
  | zero =>
    intro p a D b _ hp hE hd hb
    rw [playA_end (by omega)]
    exact ⟨hE, hd, Nat.le_refl _, Nat.zero_le _, noteA_le hE.2.1 hb⟩
  | succ n ih =>
    intro p a D b hf hp hE hd hb
    rcases Nat.lt_or_ge p cnt with q | q
    · obtain ⟨s1, s2, s3, s4, s5⟩ := ok_step hf q hc
      by_cases h2 : hinA S D (sg p) (dgA sg p) = 0
      · rw [playA_go q h2]
        have w := actA_WE hS hE s1 s3 h2
        have l := lenA_le (sg := sg) (p := p)
        have hb2 : ∀ x, (if sg p = 46 then noteA S d0 D b else b) = some x → x ≤ 99 := by
          intro x hx
          split at hx
          · exact noteA_le hE.2.1 hb x hx
          · exact hb x hx
        obtain ⟨t1, t2, t3, t4⟩ := ih (p + lenA sg p) (a + 1) _ _ s5 (by omega) w.1 (Nat.le_trans hd w.2) hb2
        exact ⟨t1, t2, by omega, t4⟩
      · rw [playA_no q h2]
        exact ⟨hE, hd, (by show a ≤ a + (n + 1); omega), hinA_le, hb⟩
    · rw [playA_end q]
      exact ⟨hE, hd, (by show a ≤ a + (n + 1); omega), Nat.zero_le _, noteA_le hE.2.1 hb⟩
set_option maxHeartbeats 200000 in
theorem pX1_play {y : Dy} {e g : Gr} {v : Pd} {S : Sta} {D : Day} {sg : Nat → Nat} {cnt : Nat} {Q : Dy → Gr → Gr → Pd → Prop} (hR : RG g S D) (hP : RPd v sg cnt) (hS : WS S) (hE : WE D) (hs : ∀ j, 0 ≤ sg j ∧ sg j ≤ 126) (hc : cnt ≤ 60) (hf : flt sg cnt 61 0 = -6)
    (h : ∀ y' e', Dy_reason y' = nI (playA S sg cnt (zdy D) 61 0 0 D none).1 → Dy_acts y' = nI (playA S sg cnt (zdy D) 61 0 0 D none).2.1 → Dy_firstOver y' = oI (playA S sg cnt (zdy D) 61 0 0 D none).2.2.2 → RG e' S (playA S sg cnt (zdy D) 61 0 0 D none).2.2.1 → Q y' e' g v) : wpX1_play y e g v Q := by
  have hdy : Gr_day g = nI (zdy D) := hR.2.2.2.2.2.2.2.2.2.2.2.2
  generalize hP0 : playA S sg cnt (zdy D) 61 0 0 D none = P at h
  unfold wpX1_play
  refine pX3_become hR hE.1 (fun e1 hR1 => ?_)
  have key : ∀ n p a (D1 : Day) b (y1 : Dy) (e1 : Gr), flt sg cnt n p = -6 → cnt ≤ p + n → p < 1000 → WE D1 → zdy D ≤ zdy D1 → (∀ x, b = some x → x ≤ 99) → Dy_reason y1 = 0 → Dy_acts y1 = nI a → Dy_firstOver y1 = oI b → RG e1 S D1 → P = playA S sg cnt (zdy D) n p a D1 b → wpX1_play_L26 Q (n + 1) y1 e1 g v (nI p) := by
    intro n
    induction n with
    | zero =>
      intro p a D1 b y1 e1 _ hp hp2 hE1 hd hb z1 z2 z3 hR1 heq
      rw [playA_end (by omega)] at heq
      rw [heq] at h
      show wpX1_play_H26 Q _ _ _ _ _ _
      unfold wpX1_play_H26
      rw [hP.2, hdy]
      exact br_t (nI_le (by omega) (by omega)) (pX1_noteOver hR1 hS hE1.1 hd (fun x hx => Nat.le_trans (hb x hx) (by decide)) z3 (h _ _ z1 z2 rfl hR1))
    | succ n ih =>
      intro p a D1 b y1 e1 hf1 hp hp2 hE1 hd hb z1 z2 z3 hR1 heq
      have hb3 : ∀ x, b = some x → x ≤ 1000 := fun x hx => Nat.le_trans (hb x hx) (by decide)
      show wpX1_play_H26 Q _ _ _ _ _ _
      unfold wpX1_play_H26
      rw [hP.2, hdy]
      rcases Nat.lt_or_ge p cnt with q | q
      · obtain ⟨s1, s2, s3, s4, s5⟩ := ok_step hf1 q hc
        have b1 := hs p
        have l := lenA_le (sg := sg) (p := p)
        rw [aI_rd hP.1 (show p < 60 by omega)]
        refine br_f (nI_ge q (by omega)) ⟨vp_in_nI (by omega) (by decide), nm_e ?_⟩
        refine pX5_digitAt hP hs hc (by omega) (fun t => ⟨(s4 t).1, (s4 t).2.1⟩) ?_
        have body : ∀ L, L + 1 = lenA sg p → wpX1_play_B63 Q (wpX1_play_L26 Q (n + 1)) y1 e1 g v (nI (sg p)) (nI (dgA sg p)) (nI p) (nI L) := by
          intro L hL
          unfold wpX1_play_B63
          refine nm_r (n_add _ _) ?_
          rw [hdy]
          refine pX3_hindrance hR1 hS hE1 (by omega) s1 s2 ?_
          by_cases h2 : hinA S D1 (sg p) (dgA sg p) = 0
          · rw [playA_go q h2] at heq
            have w := actA_WE hS hE1 s1 s3 h2
            rw [h2]
            have go : ∀ b2 (y2 : Dy), (∀ x, b2 = some x → x ≤ 99) → b2 = (if sg p = 46 then noteA S (zdy D) D1 b else b) → Dy_reason y2 = 0 → Dy_acts y2 = nI a → Dy_firstOver y2 = oI b2 → wpX1_play_B103 Q (wpX1_play_L26 Q (n + 1)) y2 e1 g v (nI (p + L)) (nI (sg p)) (nI (dgA sg p)) := by
              intro b2 y2 hb2 eb z4 z5 z6
              unfold wpX1_play_B103
              refine pX3_act hR1 hS hE1 (by omega) s1 s2 s3 h2 (fun e2 hR2 => ?_)
              refine nm_r (nI_1 (p + L)) ?_
              have eL : p + L + 1 = p + lenA sg p := by omega
              rw [eL]
              refine ih (p + lenA sg p) (a + 1) _ b2 _ e2 s5 (by omega) (by omega) w.1 (Nat.le_trans hd w.2) hb2 z4 ?_ z6 hR2 (by rw [eb]; exact heq)
              show Dy_acts y2 + 1 = _
              rw [z5]; exact nI_1 _
            refine br_t rfl (pk_ne (sg p) 46 (fun c => ?_) (fun c => ?_))
            · exact go b _ hb (by rw [if_neg c]) rfl z2 z3
            · refine pX1_noteOver hR1 hS hE1.1 hd hb3 z3 ?_
              exact go _ _ (noteA_le hE1.2.1 hb) (by rw [if_pos c]) rfl z2 rfl
          · rw [playA_no q h2] at heq
            rw [heq] at h
            have hle : hinA S D1 (sg p) (dgA sg p) ≤ 4 := hinA_le
            exact br_f (nI_ne0 (by omega) (by omega)) (h _ _ rfl z2 z3 hR1)
        exact pX5_takesDigit (by omega) (fun t => br_f one_ne (body 1 (by unfold lenA; rw [if_pos t]))) (fun t => br_t rfl (body 0 (by unfold lenA; rw [if_neg t])))
      · rw [playA_end q] at heq
        rw [heq] at h
        exact br_t (nI_le q (by omega)) (pX1_noteOver hR1 hS hE1.1 hd hb3 z3 (h _ _ z1 z2 rfl hR1))
  exact ⟨62, key 61 0 0 D none _ e1 hf (by omega) (by decide) hE (Nat.le_refl _) (fun x hx => nomatch hx) rfl rfl rfl hR1 hP0.symm⟩
/-! what the calls answer -/
abbrev plA (S : Sta) (D : Day) (sg : Nat → Nat) (cnt : Nat) : Nat × Nat × Day × Option Nat := playA S sg cnt (zdy D) 61 0 0 D none
def judgeA (S : Sta) (D : Day) (sg : Nat → Nat) (cnt : Nat) (p1 : Int32) : Int32 := if inR p1 0 1 then (if flt sg cnt 61 0 = -6 then (if (plA S D sg cnt).1 = 0 then -6 else if p1 = 0 then nI (plA S D sg cnt).2.1 else nI (plA S D sg cnt).1) else -5) else -2
abbrev canA (S : Sta) (D : Day) (sg : Nat → Nat) (cnt : Nat) : Prop := flt sg cnt 61 0 = -6 ∧ (plA S D sg cnt).1 = 0
def doneA (S : Sta) (D : Day) (sg : Nat → Nat) (cnt : Nat) : Int32 × Day × Nat := if canA S D sg cnt then (nI (plA S D sg cnt).2.1, (plA S D sg cnt).2.2.1, 0) else (-5, D, cnt)
def behindA (S : Sta) (D : Day) (sg : Nat → Nat) (cnt : Nat) (p1 : Int32) : Int32 := if inR p1 0 3 then (if canA S D sg cnt then (if p1 = 3 then nI (zdy (plA S D sg cnt).2.2.1) else nI (seeA (zoff S) (plA S D sg cnt).2.2.1 p1.toNatClampNeg 0)) else -5) else -2
def brokenA (S : Sta) (D : Day) (sg : Nat → Nat) (cnt : Nat) : Int32 := if canA S D sg cnt then oI (plA S D sg cnt).2.2.2 else -5
set_option maxHeartbeats 200000 in
theorem doneA_W {S : Sta} {D : Day} {sg : Nat → Nat} {cnt : Nat} (hS : WS S) (hE : WE D) (hc : cnt ≤ 60) : WE (doneA S D sg cnt).2.1 ∧ (doneA S D sg cnt).2.2 ≤ 60 := by
  unfold doneA
  split
  · rename_i q
    exact ⟨(playA_ok hS hc 61 0 0 D none q.1 (by omega) hE (Nat.le_refl _) (fun x hx => nomatch hx)).1, Nat.zero_le _⟩
  · exact ⟨hE, hc⟩
set_option maxHeartbeats 200000 in
theorem pX6_judge {g e : Gr} {v : Pd} {y : Dy} {S : Sta} {D : Day} {sg : Nat → Nat} {cnt : Nat} {p1 : Int32} {Q : Int32 → Gr → Pd → Dy → Gr → Prop} (hR : RG g S D) (hP : RPd v sg cnt) (hS : WS S) (hE : WE D) (hs : ∀ j, 0 ≤ sg j ∧ sg j ≤ 126) (hc : cnt ≤ 60) (h : ∀ y' e', Q (judgeA S D sg cnt p1) g v y' e') : wpX6_judge g v y e p1 Q := by
  unfold judgeA at h
  unfold wpX6_judge
  refine ck2X6_isWithin (fun c1 => ?_) (fun c1 => ?_)
  · rw [if_pos c1] at h
    refine pX5_faultPlace hP hs hc ?_
    by_cases q : flt sg cnt 61 0 = -6
    · rw [if_pos q] at h
      have ok := playA_ok hS hc 61 0 0 D none q (by omega) hE (Nat.le_refl _) (fun x hx => nomatch hx)
      refine br_t q (pX1_play hR hP hS hE hs hc q (fun y' e' z1 z2 z3 z4 => ?_))
      rw [z1, z2]
      refine pk_ne (playA S sg cnt (zdy D) 61 0 0 D none).1 0 (fun w => ?_) (fun w => ?_) (ha := by have := ok.2.2.2.1; omega)
      · rw [if_neg w] at h
        refine bn_c (fun u => ?_) (fun u => ?_)
        · rw [if_neg u] at h; exact h y' e'
        · rw [if_pos u] at h; exact h y' e'
      · rw [if_pos w] at h; exact h y' e'
    · rw [if_neg q] at h
      exact br_f q (h y e)
  · rw [if_neg c1] at h; exact h y e
set_option maxHeartbeats 200000 in
theorem pX6_daysCanBe {g e : Gr} {v : Pd} {y : Dy} {S : Sta} {D : Day} {sg : Nat → Nat} {cnt : Nat} {Q : Int32 → Gr → Pd → Dy → Gr → Prop} (hR : RG g S D) (hP : RPd v sg cnt) (hS : WS S) (hE : WE D) (hs : ∀ j, 0 ≤ sg j ∧ sg j ≤ 126) (hc : cnt ≤ 60) (h0 : ¬ canA S D sg cnt → ∀ y' e', Q 0 g v y' e') (h1 : canA S D sg cnt → ∀ y' e', Dy_acts y' = nI (plA S D sg cnt).2.1 → Dy_firstOver y' = oI (plA S D sg cnt).2.2.2 → RG e' S (plA S D sg cnt).2.2.1 → Q 1 g v y' e') : wpX6_daysCanBe g v y e Q := by
  unfold wpX6_daysCanBe
  refine pX5_faultPlace hP hs hc ?_
  by_cases q : flt sg cnt 61 0 = -6
  · have ok := playA_ok hS hc 61 0 0 D none q (by omega) hE (Nat.le_refl _) (fun x hx => nomatch hx)
    refine br_t q (pX1_play hR hP hS hE hs hc q (fun y' e' z1 z2 z3 z4 => ?_))
    rw [z1]
    refine pk_ne (playA S sg cnt (zdy D) 61 0 0 D none).1 0 (fun w => h0 (fun u => w u.2) y' e') (fun w => h1 ⟨q, w⟩ y' e' z2 z3 z4) (ha := by have := ok.2.2.2.1; omega)
  · exact br_f q (h0 (fun u => q u.1) y e)
set_option maxHeartbeats 200000 in
theorem pX6_done {g e : Gr} {v : Pd} {y : Dy} {S : Sta} {D : Day} {sg : Nat → Nat} {cnt : Nat} {Q : Int32 → Gr → Pd → Dy → Gr → Prop} (hR : RG g S D) (hP : RPd v sg cnt) (hS : WS S) (hE : WE D) (hs : ∀ j, 0 ≤ sg j ∧ sg j ≤ 126) (hc : cnt ≤ 60) (h : ∀ g' v' y' e', RG g' S (doneA S D sg cnt).2.1 → RPd v' sg (doneA S D sg cnt).2.2 → Q (doneA S D sg cnt).1 g' v' y' e') : wpX6_done g v y e Q := by
  unfold doneA at h
  unfold wpX6_done
  refine pX6_daysCanBe hR hP hS hE hs hc (fun q y' e' => ?_) (fun q y' e' z2 z3 z4 => ?_)
  · rw [if_neg q] at h
    exact bn_f rfl (h _ _ _ _ hR hP)
  · rw [if_pos q] at h
    have ok := playA_ok hS hc 61 0 0 D none q.1 (by omega) hE (Nat.le_refl _) (fun x hx => nomatch hx)
    refine bn_t one_ne (pX3_become z4 ok.1.1 (fun g' hR' => ?_))
    rw [z2]
    exact h _ _ _ _ hR' ⟨hP.1, rfl⟩
set_option maxHeartbeats 200000 in
theorem pX6_behind {g e : Gr} {v : Pd} {y : Dy} {S : Sta} {D : Day} {sg : Nat → Nat} {cnt : Nat} {p1 : Int32} {Q : Int32 → Gr → Pd → Dy → Gr → Prop} (hR : RG g S D) (hP : RPd v sg cnt) (hS : WS S) (hE : WE D) (hs : ∀ j, 0 ≤ sg j ∧ sg j ≤ 126) (hc : cnt ≤ 60) (h : ∀ y' e', Q (behindA S D sg cnt p1) g v y' e') : wpX6_behind g v y e p1 Q := by
  unfold behindA at h
  unfold wpX6_behind
  refine ck2X6_isWithin (fun c1 => ?_) (fun c1 => ?_)
  · rw [if_pos c1] at h
    refine pX6_daysCanBe hR hP hS hE hs hc (fun q y' e' => ?_) (fun q y' e' z2 z3 z4 => ?_)
    · rw [if_neg q] at h
      exact bn_f rfl (h _ _)
    · rw [if_pos q] at h
      have ok := playA_ok hS hc 61 0 0 D none q.1 (by omega) hE (Nat.le_refl _) (fun x hx => nomatch hx)
      refine bn_t one_ne (bn_c (fun u => ?_) (fun u => ?_))
      · rw [if_neg u] at h
        obtain ⟨c, hc3, rfl⟩ := inR_nI (n := 3) (by decide) c1
        have c3 : c ≠ 3 := fun w => u (by rw [w]; rfl)
        rw [nI_clamp (show c < 2 ^ 31 by omega)] at h
        exact pX3_seenToday (mo := 0) z4 hS ok.1.1 (by omega) (by decide) (h _ _)
      · rw [if_pos u] at h
        have e3 : Gr_day e' = _ := z4.2.2.2.2.2.2.2.2.2.2.2.2
        rw [e3]
        exact h _ _
  · rw [if_neg c1] at h; exact h y e
set_option maxHeartbeats 200000 in
theorem pX6_broken {g e : Gr} {v : Pd} {y : Dy} {S : Sta} {D : Day} {sg : Nat → Nat} {cnt : Nat} {Q : Int32 → Gr → Pd → Dy → Gr → Prop} (hR : RG g S D) (hP : RPd v sg cnt) (hS : WS S) (hE : WE D) (hs : ∀ j, 0 ≤ sg j ∧ sg j ≤ 126) (hc : cnt ≤ 60) (h : ∀ y' e', Q (brokenA S D sg cnt) g v y' e') : wpX6_broken g v y e Q := by
  unfold brokenA at h
  unfold wpX6_broken
  refine pX6_daysCanBe hR hP hS hE hs hc (fun q y' e' => ?_) (fun q y' e' z2 z3 z4 => ?_)
  · rw [if_neg q] at h
    exact br_t rfl (h _ _)
  · rw [if_pos q] at h
    rw [z3]
    exact br_f one_ne (h _ _)
set_option maxHeartbeats 200000 in
theorem pX6_fault {v : Pd} {sg : Nat → Nat} {cnt : Nat} {Q : Int32 → Pd → Prop} (hP : RPd v sg cnt) (hs : ∀ j, 0 ≤ sg j ∧ sg j ≤ 126) (hc : cnt ≤ 60) (h : Q (flt sg cnt 61 0) v) : wpX6_fault v Q := pX5_faultPlace hP hs hc h
