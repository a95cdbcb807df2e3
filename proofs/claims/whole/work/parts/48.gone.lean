/-! gone, hue, make -/
/-- the last place below n with something, and one -/
def lastp (v : Nat → Nat) : Nat → Nat
  | 0 => 0
  | n + 1 => if 0 < v n then n + 1 else lastp v n
set_option maxHeartbeats 200000 in
theorem lastp_le (v : Nat → Nat) : ∀ n, lastp v n ≤ n
  | 0 => Nat.le_refl 0
  | n + 1 => by
    unfold lastp
    have ih := lastp_le v n
    split <;> omega
set_option maxHeartbeats 200000 in
theorem lastp_sum (a b c : Nat → Nat) : ∀ n, lastp (fun d => a d + b d + c d) n = max (max (lastp a n) (lastp b n)) (lastp c n)
  | 0 => rfl
  | n + 1 => by
    have ih := lastp_sum a b c n
    have h1 := lastp_le a n
    have h2 := lastp_le b n
    have h3 := lastp_le c n
    have h4 := lastp_le (fun d => a d + b d + c d) n
    unfold lastp
    by_cases q : 0 < a n + b n + c n
    · rw [if_pos q]
      have e1 : (if 0 < a n then n + 1 else lastp a n) ≤ n + 1 := by split <;> omega
      have e2 : (if 0 < b n then n + 1 else lastp b n) ≤ n + 1 := by split <;> omega
      have e3 : (if 0 < c n then n + 1 else lastp c n) ≤ n + 1 := by split <;> omega
      rcases (show 0 < a n ∨ 0 < b n ∨ 0 < c n by omega) with q1 | q1 | q1
      · rw [if_pos q1]; omega
      · rw [if_pos q1]; omega
      · rw [if_pos q1]; omega
    · rw [if_neg q, if_neg (show ¬ 0 < a n by omega), if_neg (show ¬ 0 < b n by omega), if_neg (show ¬ 0 < c n by omega)]
      exact ih
set_option maxHeartbeats 200000 in
theorem pX0_lastSeen {co : Co} {off kp : Nat → Nat} {fg : Nat → Bool} {h0 : Nat → Nat} {Q : Int32 → Co → Prop} (hh : ∀ k, h0 k ≤ 999) (h : RC co off kp fg h0 60) (hq : ∀ r, r + 1 = nI (lastp (fun d => hist off kp fg h0 d 0) 61) → Q r co) : wpX0_lastSeen co Q := by
  unfold wpX0_lastSeen
  have key : ∀ a, a ≤ 61 → lastp (fun d => hist off kp fg h0 d 0) 61 = lastp (fun d => hist off kp fg h0 d 0) a → wpX0_lastSeen_L3 Q (a + 1) co (nI a + (-1)) := by
    intro a
    induction a with
    | zero =>
      intro _ e
      show wpX0_lastSeen_H3 Q _ _ _
      unfold wpX0_lastSeen_H3
      refine br_t (by decide) (hq _ ?_)
      rw [e]
      show (-1 : Int32) + 1 = nI 0
      decide
    | succ a ih =>
      intro ha e
      rw [pk_m1]
      show wpX0_lastSeen_H3 Q _ _ _
      unfold wpX0_lastSeen_H3
      refine br_f (nI_pos (by omega)) ?_
      refine pX0_at h (by omega) (by decide) ?_
      have hl := hist_le (off := off) (kp := kp) (fg := fg) hh a 0
      refine pk_le (hist off kp fg h0 a 0) 0 (fun q => nm_e (ih (by omega) ?_)) (fun q => hq _ ?_)
      · rw [e]
        show (if 0 < hist off kp fg h0 a 0 then a + 1 else _) = _
        rw [if_neg (by omega)]
      · rw [e]
        show _ = nI (if 0 < hist off kp fg h0 a 0 then a + 1 else lastp (fun d => hist off kp fg h0 d 0) a)
        rw [if_pos q]; exact nI_1 a
  refine ⟨62, ?_⟩
  have e : (60 : Int32) = nI 61 + (-1) := by decide
  rw [e]
  exact key 61 (by decide) rfl
def goneN (off : Nat → Nat) (D : Day) : Nat := lastp (fun d => fcA off D 0 d 0 + fcA off D 1 d 0 + fcA off D 2 d 0) 61
def goneA (off : Nat → Nat) (D : Day) : Int32 := if goneN off D ≤ 60 then nI (goneN off D) else -6
set_option maxHeartbeats 200000 in
theorem pX6_gone {g : Gr} {co : Co} {S : Sta} {D : Day} {Q : Int32 → Gr → Co → Prop} (hR : RG g S D) (hS : WS S) (hD : WD D) (h : ∀ co', Q (goneA (zoff S) D) g co') : wpX6_gone g co Q := by
  let L : Nat → Nat := fun c => lastp (fun d => fcA (zoff S) D c d 0) 61
  have hL : ∀ c, L c ≤ 61 := fun c => lastp_le _ 61
  let M : Nat → Nat := fun i => if i = 0 then 0 else if i = 1 then L 0 else if i = 2 then max (L 0) (L 1) else max (max (L 0) (L 1)) (L 2)
  unfold wpX6_gone
  have key : ∀ i, i ≤ 3 → ∃ n, ∀ co : Co, wpX6_gone_L4 Q n g co (nI (M i)) (nI i) := by
    refine up_loop 3 (fun n => ?_) (fun n i hi ih => ?_)
    · intro co
      show wpX6_gone_H4 Q _ _ _ _ _
      unfold wpX6_gone_H4
      refine br_t (nI_le (by decide) (by decide)) ?_
      have e : M 3 = goneN (zoff S) D := (lastp_sum _ _ _ 61).symm
      have h0 := hL 0
      have h1 := hL 1
      have h2 := hL 2
      have hb : goneN (zoff S) D ≤ 61 := lastp_le _ 61
      rw [e]
      unfold goneA at h
      refine pk_le (goneN (zoff S) D) 60 (fun q => ?_) (fun q => ?_)
      · rw [if_pos q] at h; exact h co
      · rw [if_neg (by omega)] at h; exact h co
    · intro co
      show wpX6_gone_H4 Q _ _ _ _ _
      unfold wpX6_gone_H4
      refine br_f (nI_ge hi (by decide)) ?_
      refine pX0_fromNow (mo := 0) (fogB 0) hR hS hD hi (by decide) (fun co1 h1 => ?_)
      refine pX0_run (d := 60) (f := 0) hR hS hD (hzm_le hD i 0) h1 (by decide) (by decide) (fun co2 h2 => ?_)
      rw [fogB_0] at h2
      refine pX0_lastSeen (hzm_le hD i 0) h2 (fun r hr => ?_)
      have e1 : r + 1 = nI (L i) := hr
      have h0 := hL 0
      have h1 := hL 1
      have h3 := hL i
      have hM : M i ≤ 61 := by
        show (if i = 0 then 0 else if i = 1 then L 0 else if i = 2 then max (L 0) (L 1) else max (max (L 0) (L 1)) (L 2)) ≤ 61
        have h2 := hL 2
        split
        · omega
        · split
          · omega
          · split <;> omega
      rw [e1, if_max (by omega) (by omega)]
      refine nm_r (e' := nI (M (i + 1))) ?_ (nm_r (nI_1 i) (ih co2))
      congr 1
      rcases (show i = 0 ∨ i = 1 ∨ i = 2 by omega) with rfl | rfl | rfl
      · show max 0 (L 0) = L 0
        omega
      · rfl
      · rfl
  obtain ⟨n, hn⟩ := key 0 (by decide)
  exact ⟨n, hn co⟩
set_option maxHeartbeats 200000 in
theorem pX7_gone {m : Mo} {S : Sta} {D : Day} {sg : Nat → Nat} {cnt : Nat} {I J : Nat → Int32} {Q : Int32 → Mo → Prop} (hR : RMo m S D sg cnt I J) (hS : WS S) (hD : WD D) (hy : zdy D ≤ 99) (h : ∀ m', FX m m' → Q (goneA (zoff S) D) m') : wpX7_gone m Q := by
  unfold wpX7_gone
  refine pX7_asNow hR.2.1 (fun m1 hF1 hN1 => ?_)
  let V : Nat → Nat := fun d => fcA (zoff S) D 0 d 0 + fcA (zoff S) D 1 d 0 + fcA (zoff S) D 2 d 0
  have key : ∀ i, i ≤ 61 → ∃ n, ∀ m' : Mo, FN m m' → RN m' (waitA (zoff S) i D) → wpX7_gone_L8 Q n m' (nI (lastp V i)) (nI i) := by
    refine up_loop 61 (fun n => ?_) (fun n i hi ih => ?_)
    · intro m' hF hN
      show wpX7_gone_H8 Q _ _ _ _
      unfold wpX7_gone_H8
      have hb : goneN (zoff S) D ≤ 61 := lastp_le _ 61
      refine br_t (nI_le (by decide) (by decide)) ?_
      unfold goneA at h
      refine pk_le (goneN (zoff S) D) 60 (fun q => ?_) (fun q => ?_)
      · rw [if_pos q] at h; exact h m' hF.X
      · rw [if_neg (by omega)] at h; exact h m' hF.X
    · intro m' hF hN
      show wpX7_gone_H8 Q _ _ _ _
      unfold wpX7_gone_H8
      refine br_f (nI_ge hi (by decide)) ?_
      refine pX7_seeAll (hF.S hR.1) hN hS (waitA_WD hD i (by omega)) ?_
      rw [see_wait (mo := 0) hS.1 i rfl rfl, see_wait (mo := 0) hS.1 i rfl rfl, see_wait (mo := 0) hS.1 i rfl rfl]
      have s0 := fcA_le (off := zoff S) hD 0 i 0
      have s1 := fcA_le (off := zoff S) hD 1 i 0
      have s2 := fcA_le (off := zoff S) hD 2 i 0
      have fin : ∀ v, v = lastp V (i + 1) → wpX7_gone_B28 Q (wpX7_gone_L8 Q n) m' (nI i) (nI v) := by
        intro v hv
        unfold wpX7_gone_B28
        refine pX7_pass (hF.S hR.1) hN hS (waitA_WD hD i (by omega)) (fun m2 hF2 hN2 => nm_r (nI_1 i) ?_)
        rw [hv]
        exact ih m2 (hF.trans hF2) hN2
      have hV : V i ≤ 2997 := by
        show fcA (zoff S) D 0 i 0 + fcA (zoff S) D 1 i 0 + fcA (zoff S) D 2 i 0 ≤ 2997
        omega
      refine pk_le (V i) 0 (fun q => fin _ ?_) (fun q => ?_)
      · show _ = (if 0 < V i then i + 1 else lastp V i)
        rw [if_neg (by omega)]
      · rw [nI_1]
        refine fin _ ?_
        show _ = (if 0 < V i then i + 1 else lastp V i)
        rw [if_pos q]
  obtain ⟨n, hn⟩ := key 0 (by decide)
  exact ⟨n, hn m1 hF1 hN1⟩
/-- the least of the colours of which most is seen; none where nothing is -/
def hueN (v : Nat → Nat) : Nat → Int32 × Nat
  | 0 => (-6, 0)
  | c + 1 => if v c ≤ (hueN v c).2 then hueN v c else (nI c, v c)
def hueA (off : Nat → Nat) (D : Day) (p1 : Int32) : Int32 := if inR p1 0 60 then (hueN (fun c => fcA off D c p1.toNatClampNeg 0) 3).1 else -2
set_option maxHeartbeats 200000 in
theorem hueN_le {v : Nat → Nat} (hv : ∀ c, v c ≤ 999) : ∀ c, (hueN v c).2 ≤ 999
  | 0 => Nat.zero_le _
  | c + 1 => by
    unfold hueN
    split
    · exact hueN_le hv c
    · exact hv c
set_option maxHeartbeats 200000 in
/-- which it is: none with nothing, or a colour with what is seen of it -/
theorem hueN_is (v : Nat → Nat) : ∀ c, ((hueN v c).1 = -6 ∧ (hueN v c).2 = 0) ∨ ∃ k, k < c ∧ (hueN v c).1 = nI k ∧ (hueN v c).2 = v k
  | 0 => Or.inl ⟨rfl, rfl⟩
  | c + 1 => by
    unfold hueN
    split
    · rcases hueN_is v c with h | ⟨k, hk, h⟩
      · exact Or.inl h
      · exact Or.inr ⟨k, by omega, h⟩
    · exact Or.inr ⟨c, by omega, rfl, rfl⟩
set_option maxHeartbeats 200000 in
theorem pX6_hue {g : Gr} {co : Co} {S : Sta} {D : Day} {p1 : Int32} {Q : Int32 → Gr → Co → Prop} (hR : RG g S D) (hS : WS S) (hD : WD D) (h : ∀ co', Q (hueA (zoff S) D p1) g co') : wpX6_hue g co p1 Q := by
  unfold hueA at h
  unfold wpX6_hue
  refine ck2X6_isAhead (fun c1 => ?_) (fun c1 => ?_)
  · rw [if_pos c1] at h
    obtain ⟨d, hd, rfl⟩ := inR_nI (n := 60) (by decide) c1
    rw [nI_clamp (show d < 2 ^ 31 by omega)] at h
    let v : Nat → Nat := fun c => fcA (zoff S) D c d 0
    have hv : ∀ c, v c ≤ 999 := fun c => fcA_le hD c d 0
    have key : ∀ i, i ≤ 3 → ∃ n, ∀ co : Co, wpX6_hue_L18 Q n g co (nI d) (hueN v i).1 (nI (hueN v i).2) (nI i) := by
      refine up_loop 3 (fun n => ?_) (fun n i hi ih => ?_)
      · intro co
        show wpX6_hue_H18 Q _ _ _ _ _ _ _
        unfold wpX6_hue_H18
        exact br_t (nI_le (by decide) (by decide)) (h co)
      · intro co
        show wpX6_hue_H18 Q _ _ _ _ _ _ _
        unfold wpX6_hue_H18
        refine br_f (nI_ge hi (by decide)) ?_
        refine pX6_seenWith (mo := 0) hR hS hD hi hd (by decide) (fun co' => ?_)
        have h1 := hueN_le hv i
        have h2 := hv i
        have h3 : fcA (zoff S) D i d 0 ≤ 999 := h2
        have ih2 := ih co'
        have e : hueN v (i + 1) = if v i ≤ (hueN v i).2 then hueN v i else (nI i, v i) := rfl
        rw [e] at ih2
        refine pk_le (v i) (hueN v i).2 (fun q => ?_) (fun q => ?_)
        · rw [if_pos q] at ih2
          unfold wpX6_hue_B46
          exact nm_r (nI_1 i) ih2
        · rw [if_neg (by omega)] at ih2
          unfold wpX6_hue_B46
          exact nm_r (nI_1 i) ih2
    obtain ⟨n, hn⟩ := key 0 (by decide)
    exact ⟨n, hn co⟩
  · rw [if_neg c1] at h; exact h co
set_option maxHeartbeats 200000 in
theorem pX7_hue {m : Mo} {S : Sta} {D : Day} {sg : Nat → Nat} {cnt : Nat} {I J : Nat → Int32} {p1 : Int32} {Q : Int32 → Mo → Prop} (hR : RMo m S D sg cnt I J) (hS : WS S) (hD : WD D) (hy : zdy D ≤ 99) (h : ∀ m', FX m m' → Q (hueA (zoff S) D p1) m') : wpX7_hue m p1 Q := by
  unfold hueA at h
  unfold wpX7_hue
  refine ck2X7_isDay (fun c1 => ?_) (fun c1 => ?_)
  · rw [if_pos c1] at h
    obtain ⟨d, hd, rfl⟩ := inR_nI (n := 60) (by decide) c1
    rw [nI_clamp (show d < 2 ^ 31 by omega)] at h
    refine pX7_asNow hR.2.1 (fun m1 hF hN => ?_)
    refine pX7_waits (hF.S hR.1) hN hS hD (by omega) (by omega) (fun m2 hF2 hN2 => ?_)
    have hF3 := hF.trans hF2
    let v : Nat → Nat := fun c => fcA (zoff S) D c d 0
    have hv : ∀ c, v c ≤ 999 := fun c => fcA_le hD c d 0
    have hsee : ∀ c, c < 3 → ∀ {Q : Int32 → Mo → Prop}, Q (nI (v c)) m2 → wpX7_see m2 (nI c) Q := by
      intro c hc Q hq
      refine pX7_see (hF3.S hR.1) hN2 hS (waitA_WD hD d (by omega)) hc ?_
      rw [see_wait (mo := 0) hS.1 d rfl rfl]
      exact hq
    have key : ∀ i, i ≤ 3 → ∃ n, wpX7_hue_L24 Q n m2 (hueN v i).1 (nI i) := by
      refine up_loop 3 (fun n => ?_) (fun n i hi ih => ?_)
      · show wpX7_hue_H24 Q _ _ _ _
        unfold wpX7_hue_H24
        exact br_t (nI_le (by decide) (by decide)) (h m2 hF3.X)
      · show wpX7_hue_H24 Q _ _ _ _
        unfold wpX7_hue_H24
        refine br_f (nI_ge hi (by decide)) (hsee i hi ?_)
        have h1 := hueN_le hv i
        have h2 := hv i
        have e : hueN v (i + 1) = if v i ≤ (hueN v i).2 then hueN v i else (nI i, v i) := rfl
        rw [e] at ih
        have fin : wpX7_hue_B47 Q (wpX7_hue_L24 Q n) m2 (hueN v i).1 (nI i) (nI (v i)) (nI (hueN v i).2) := by
          unfold wpX7_hue_B47
          refine pk_le (v i) (hueN v i).2 (fun q => ?_) (fun q => ?_)
          · rw [if_pos q] at ih
            unfold wpX7_hue_B55
            exact nm_r (nI_1 i) ih
          · rw [if_neg (by omega)] at ih
            unfold wpX7_hue_B55
            exact nm_r (nI_1 i) ih
        rcases hueN_is v i with ⟨q1, q2⟩ | ⟨k, hk, q1, q2⟩
        · rw [q2] at fin
          refine br_f ?_ fin
          rw [q1]; decide
        · rw [q1] at fin ⊢
          rw [q2] at fin
          exact br_t (nI_pos' (by omega)) (hsee k (by omega) fin)
    obtain ⟨n, hn⟩ := key 0 (by decide)
    exact ⟨n, hn⟩
  · rw [if_neg c1] at h; exact h m FX.rf
/-! make: more shown never makes less seen -/
set_option maxHeartbeats 200000 in
theorem cap_mono {a b : Nat} (h : a ≤ b) : cap a ≤ cap b := by unfold cap; split <;> split <;> omega
set_option maxHeartbeats 200000 in
theorem wsm_mono {off kp p q : Nat → Nat} (h : ∀ j, p j ≤ q j) : ∀ i, wsm off kp p i ≤ wsm off kp q i
  | 0 => Nat.le_refl _
  | i + 1 => by
    have ih := wsm_mono (off := off) (kp := kp) h i
    have h1 : p (off i - 1) * kp i / 10 ≤ q (off i - 1) * kp i / 10 := Nat.div_le_div_right (Nat.mul_le_mul_right _ (h _))
    show wsm off kp p i + _ ≤ wsm off kp q i + _
    omega
set_option maxHeartbeats 200000 in
theorem hist_mono {off kp : Nat → Nat} {fg : Nat → Bool} {h0 h1 : Nat → Nat} (h : ∀ k, h0 k ≤ h1 k) : ∀ d k, hist off kp fg h0 d k ≤ hist off kp fg h1 d k
  | 0, k => h k
  | d + 1, k => by
    show (if k = 0 then (if fg d then 0 else cap (wsm off kp (hist off kp fg h0 d) 4)) else hist off kp fg h0 d (k - 1)) ≤ (if k = 0 then (if fg d then 0 else cap (wsm off kp (hist off kp fg h1 d) 4)) else hist off kp fg h1 d (k - 1))
    split
    · split
      · exact Nat.le_refl _
      · exact cap_mono (wsm_mono (fun j => hist_mono h d j) 4)
    · exact hist_mono h d _
set_option maxHeartbeats 200000 in
theorem fcA_mono {off : Nat → Nat} {D : Day} {c d a b : Nat} (h : a ≤ b) : fcA off D c d a ≤ fcA off D c d b := by
  unfold fcA
  refine hist_mono (fun k => ?_) d 0
  unfold hzm
  split
  · unfold seeA
    refine cap_mono ?_
    split <;> omega
  · exact Nat.le_refl _
/-- the first below n at which f is at least v; n where none is -/
def firstG (f : Nat → Nat) (v : Nat) : Nat → Nat
  | 0 => 0
  | n + 1 => if firstG f v n < n then firstG f v n else if v ≤ f n then n else n + 1
set_option maxHeartbeats 200000 in
theorem firstG_le (f : Nat → Nat) (v : Nat) : ∀ n, firstG f v n ≤ n
  | 0 => Nat.le_refl 0
  | n + 1 => by
    have ih := firstG_le f v n
    unfold firstG
    split
    · omega
    · split <;> omega
set_option maxHeartbeats 200000 in
theorem firstG_no (f : Nat → Nat) (v : Nat) : ∀ n k, k < firstG f v n → f k < v
  | 0, k, h => absurd h (Nat.not_lt_zero k)
  | n + 1, k, h => by
    have ih := firstG_no f v n k
    have hl := firstG_le f v n
    unfold firstG at h
    split at h
    · exact ih h
    · split at h
      · rename_i q1 q2
        exact ih (by omega)
      · rename_i q1 q2
        rcases Nat.lt_or_ge k n with q | q
        · exact ih (by omega)
        · have : k = n := by omega
          subst this; omega
set_option maxHeartbeats 200000 in
theorem firstG_yes (f : Nat → Nat) (v : Nat) : ∀ n, firstG f v n < n → v ≤ f (firstG f v n)
  | 0, h => absurd h (Nat.not_lt_zero _)
  | n + 1, h => by
    have ih := firstG_yes f v n
    unfold firstG at h ⊢
    by_cases q1 : firstG f v n < n
    · rw [if_pos q1]; exact ih q1
    · rw [if_neg q1] at h ⊢
      by_cases q2 : v ≤ f n
      · rw [if_pos q2]; exact q2
      · rw [if_neg q2] at h; omega
set_option maxHeartbeats 200000 in
theorem firstG_eq {f : Nat → Nat} {v n k : Nat} (hk : k ≤ n) (h1 : ∀ j, j < k → f j < v) (h2 : k < n → v ≤ f k) : firstG f v n = k := by
  have a := firstG_le f v n
  rcases Nat.lt_trichotomy (firstG f v n) k with q | q | q
  · have := firstG_yes f v n (by omega)
    have := h1 _ q
    omega
  · exact q
  · have := firstG_no f v n k q
    have := h2 (by omega)
    omega
def makeA (off : Nat → Nat) (D : Day) (p1 p2 p3 p4 : Int32) : Int32 :=
  if inR p1 0 2 ∧ inR p2 0 60 ∧ inR p3 0 999 ∧ inR p4 0 1 then
    (if firstG (fun mo => fcA off D p1.toNatClampNeg p2.toNatClampNeg mo) p3.toNatClampNeg 1000 ≤ 999 then
      (if p4 = 0 then nI (firstG (fun mo => fcA off D p1.toNatClampNeg p2.toNatClampNeg mo) p3.toNatClampNeg 1000) else nI (fcA off D p1.toNatClampNeg p2.toNatClampNeg (firstG (fun mo => fcA off D p1.toNatClampNeg p2.toNatClampNeg mo) p3.toNatClampNeg 1000))) else -6) else -2
set_option maxHeartbeats 200000 in
theorem pX6_leastShow {g : Gr} {co : Co} {S : Sta} {D : Day} {c d v : Nat} {Q : Int32 → Gr → Co → Prop} (hR : RG g S D) (hS : WS S) (hD : WD D) (hc : c < 3) (hd : d ≤ 60) (hv : v ≤ 999) (h : ∀ co', Q (nI (firstG (fun mo => fcA (zoff S) D c d mo) v 1000)) g co') : wpX6_leastShow g co (nI c) (nI d) (nI v) Q := by
  unfold wpX6_leastShow
  have key : ∀ j i, i + j = 20 → ∀ lo hi, lo ≤ hi → hi ≤ 1000 → hi - lo < 2 ^ j → (∀ k, k < lo → fcA (zoff S) D c d k < v) → (hi < 1000 → v ≤ fcA (zoff S) D c d hi) → ∀ co : Co, wpX6_leastShow_L11 Q (j + 1) g co (nI c) (nI d) (nI v) (nI lo) (nI hi) (nI i) := by
    intro j
    induction j with
    | zero =>
      intro i hi20 lo hi hlh hhi hw h1 h2 co
      show wpX6_leastShow_H11 Q _ _ _ _ _ _ _ _ _
      unfold wpX6_leastShow_H11
      have e : lo = hi := by
        have : (2 : Nat) ^ 0 = 1 := rfl
        omega
      subst e
      have e2 := firstG_eq (n := 1000) hhi h1 h2
      rw [e2] at h
      exact br_t (nI_le (a := 20) (by omega) (by omega)) (h co)
    | succ j ih =>
      intro i hi20 lo hi hlh hhi hw h1 h2 co
      show wpX6_leastShow_H11 Q _ _ _ _ _ _ _ _ _
      unfold wpX6_leastShow_H11
      refine br_f (nI_ge (a := i) (b := 20) (by omega) (by omega)) ?_
      refine pk_le hi lo (fun q => ?_) (fun q => ?_)
      · have e : lo = hi := by omega
        subst e
        have e2 := firstG_eq (n := 1000) hhi h1 h2
        rw [e2] at h
        exact h co
      · have em : (nI lo + nI hi) / 2 = nI ((lo + hi) / 2) := by simp (disch := omega) only [k_0, k_1, k_2, k_3, k_4, k_5, k_6, k_7, k_8, k_9, k_10, k_15, k_16, k_18, k_20, k_26, k_27, k_31, k_33, k_46, k_48, k_49, k_51, k_53, k_57, k_60, k_61, k_63, k_64, k_65, k_70, k_71, k_74, k_75, k_80, k_81, k_82, k_83, k_84, k_85, k_98, k_99, k_100, k_102, k_114, k_115, k_119, k_121, k_126, k_200, k_999, k_1000, k_3000, k_9999, k_65537, k_1000000, k_999999999, k_500, n_mul, n_add, n_sub, n_div]
        have hpw : 2 ^ (j + 1) = 2 * 2 ^ j := by rw [Nat.pow_succ, Nat.mul_comm]
        refine nm_r em ?_
        refine pX6_seenWith hR hS hD hc hd (by omega) (fun co' => ?_)
        have hf := fcA_le (off := zoff S) hD c d ((lo + hi) / 2)
        unfold wpX6_leastShow_B59
        refine pk_lt (fcA (zoff S) D c d ((lo + hi) / 2)) v (fun q2 => nm_r (nI_1 _) (nm_r (nI_1 i) ?_)) (fun q2 => nm_r (nI_1 i) ?_)
        · refine ih (i + 1) (by omega) ((lo + hi) / 2 + 1) hi (by omega) hhi (by omega) (fun k hk => ?_) h2 co'
          exact Nat.lt_of_le_of_lt (fcA_mono (by omega)) q2
        · refine ih (i + 1) (by omega) lo ((lo + hi) / 2) (by omega) (by omega) (by omega) h1 (fun _ => q2) co'
  have e1000 : (1000 : Int32) = nI 1000 := rfl
  refine ⟨21, ?_⟩
  rw [e1000]
  exact key 20 0 rfl 0 1000 (by decide) (by decide) (by decide) (fun k hk => absurd hk (Nat.not_lt_zero k)) (fun q => absurd q (by decide)) co
set_option maxHeartbeats 200000 in
theorem pX6_make {g : Gr} {co : Co} {S : Sta} {D : Day} {p1 p2 p3 p4 : Int32} {Q : Int32 → Gr → Co → Prop} (hR : RG g S D) (hS : WS S) (hD : WD D) (h : ∀ co', Q (makeA (zoff S) D p1 p2 p3 p4) g co') : wpX6_make g co p1 p2 p3 p4 Q := by
  unfold makeA at h
  unfold wpX6_make
  refine ck1X6_isColour (fun c1 => ?_) (fun c1 => ?_)
  · rw [if_neg (fun q => c1 q.1)] at h; exact h co
  refine ck1X6_isAhead (fun c2 => ?_) (fun c2 => ?_)
  · rw [if_neg (fun q => c2 q.2.1)] at h; exact h co
  refine ck1X6_isAmount (fun c3 => ?_) (fun c3 => ?_)
  · rw [if_neg (fun q => c3 q.2.2.1)] at h; exact h co
  refine ck2X6_isWithin (fun c4 => ?_) (fun c4 => ?_)
  · rw [if_pos ⟨c1, c2, c3, c4⟩] at h
    obtain ⟨c, hc, rfl⟩ := inR_nI (n := 2) (by decide) c1
    obtain ⟨d, hd, rfl⟩ := inR_nI (n := 60) (by decide) c2
    obtain ⟨v, hv, rfl⟩ := inR_nI (n := 999) (by decide) c3
    rw [nI_clamp (show c < 2 ^ 31 by omega), nI_clamp (show d < 2 ^ 31 by omega), nI_clamp (show v < 2 ^ 31 by omega)] at h
    have hb := firstG_le (fun mo => fcA (zoff S) D c d mo) v 1000
    refine pX6_leastShow hR hS hD (by omega) hd hv (fun co1 => ?_)
    refine pk_le (firstG (fun mo => fcA (zoff S) D c d mo) v 1000) 999 (fun q => ?_) (fun q => ?_)
    · rw [if_pos q] at h
      refine bn_c (fun q4 => ?_) (fun q4 => ?_)
      · rw [if_neg q4] at h
        exact pX6_seenWith hR hS hD (by omega) hd (by omega) h
      · rw [if_pos q4] at h
        exact h co1
    · rw [if_neg (by omega)] at h; exact h co1
  · rw [if_neg (fun q => c4 q.2.2.2)] at h; exact h co
set_option maxHeartbeats 200000 in
theorem pX7_make {m : Mo} {S : Sta} {D : Day} {sg : Nat → Nat} {cnt : Nat} {I J : Nat → Int32} {p1 p2 p3 p4 : Int32} {Q : Int32 → Mo → Prop} (hR : RMo m S D sg cnt I J) (hS : WS S) (hD : WD D) (hy : zdy D ≤ 99) (hsh : ∀ j, zsh D j ≤ 999) (h : ∀ m', FX m m' → Q (makeA (zoff S) D p1 p2 p3 p4) m') : wpX7_make m p1 p2 p3 p4 Q := by
  unfold makeA at h
  unfold wpX7_make
  refine ck1X7_in (fun c1 => ?_) (fun c1 => ?_)
  · rw [if_neg (fun q => c1 q.1)] at h; exact h m FX.rf
  refine ck1X7_isDay (fun c2 => ?_) (fun c2 => ?_)
  · rw [if_neg (fun q => c2 q.2.1)] at h; exact h m FX.rf
  refine ck1X7_in (fun c3 => ?_) (fun c3 => ?_)
  · rw [if_neg (fun q => c3 q.2.2.1)] at h; exact h m FX.rf
  refine ck2X7_in (fun c4 => ?_) (fun c4 => ?_)
  · rw [if_pos ⟨c1, c2, c3, c4⟩] at h
    obtain ⟨c, hc, rfl⟩ := inR_nI (n := 2) (by decide) c1
    obtain ⟨d, hd, rfl⟩ := inR_nI (n := 60) (by decide) c2
    obtain ⟨v, hv, rfl⟩ := inR_nI (n := 999) (by decide) c3
    rw [nI_clamp (show c < 2 ^ 31 by omega), nI_clamp (show d < 2 ^ 31 by omega), nI_clamp (show v < 2 ^ 31 by omega)] at h
    have key : ∀ i, i ≤ 1000 → ∃ n, (∀ k, k < i → fcA (zoff S) D c d k < v) → ∀ m' : Mo, FN m m' → wpX7_make_L43 Q n m' (nI c) (nI d) (nI v) p4 (nI i) := by
      refine up_loop 1000 (fun n => ?_) (fun n i hi ih => ?_)
      · intro hb m' hF
        show wpX7_make_H43 Q _ _ _ _ _ _ _
        unfold wpX7_make_H43
        have e := firstG_eq (f := fun mo => fcA (zoff S) D c d mo) (n := 1000) (Nat.le_refl 1000) hb (fun q => absurd q (Nat.lt_irrefl _))
        rw [e, if_neg (by decide)] at h
        exact br_t (nI_le (by decide) (by decide)) (h m' hF.X)
      · intro hb m' hF
        show wpX7_make_H43 Q _ _ _ _ _ _ _
        unfold wpX7_make_H43
        refine br_f (nI_ge hi (by decide)) ?_
        refine pX7_asNow (hF.P hR.2.1) (fun m1 hF1 hN1 => ?_)
        have hFa := hF.trans hF1
        obtain ⟨n1, n2⟩ := hN1
        refine ⟨vp_in_nI (by omega) (by decide), vp_in_nI (by omega) (by decide), ?_⟩
        rw [aI_rd n1 (by omega), n_add]
        let N : Day := (fU (zsh D) c (zsh D c + i), D.2)
        have hsc := hsh c
        have hN : WD N := ⟨fun j => by
          show fU (zsh D) c (zsh D c + i) j ≤ 99999
          unfold fU
          split
          · omega
          · exact hD.1 j, hD.2⟩
        have hFb := hFa.shown (upd (Mo_shown m1) (nI c).toNatClampNeg (nI (zsh D c + i)))
        have hRN : RN (Mo_s_shown m1 (upd (Mo_shown m1) (nI c).toNatClampNeg (nI (zsh D c + i)))) N := ⟨aI_up n1, n2⟩
        refine pX7_waits (hFb.S hR.1) hRN hS hN (by omega) (show zdy D + d ≤ 1000 by omega) (fun m2 hF2 hN2 => ?_)
        have hFc := hFb.trans hF2
        have hW2 := waitA_WD (off := zoff S) hN d (show zdy D + d ≤ 1000 by omega)
        have es : seeA (zoff S) (waitA (zoff S) d N) c 0 = fcA (zoff S) D c d i := see_wait (mo := i) hS.1 d fU_s rfl
        have hf := fcA_le (off := zoff S) hD c d i
        refine pX7_see (hFc.S hR.1) hN2 hS hW2 (by omega) ?_
        rw [es]
        refine pk_lt (fcA (zoff S) D c d i) v (fun q => nm_r (nI_1 i) (ih (fun k hk => ?_) m2 hFc)) (fun q => ?_)
        · rcases Nat.lt_or_ge k i with q2 | q2
          · exact hb k q2
          · have : k = i := by omega
            subst this; exact q
        · have e := firstG_eq (f := fun mo => fcA (zoff S) D c d mo) (n := 1000) (k := i) (by omega) hb (fun _ => q)
          rw [e, if_pos (by omega)] at h
          refine bn_c (fun q4 => ?_) (fun q4 => ?_)
          · rw [if_neg q4] at h
            refine pX7_see (hFc.S hR.1) hN2 hS hW2 (by omega) ?_
            rw [es]
            exact h m2 hFc.X
          · rw [if_pos q4] at h
            exact h m2 hFc.X
    obtain ⟨n, hn⟩ := key 0 (by decide)
    exact ⟨n, hn (fun k hk => absurd hk (Nat.not_lt_zero k)) m FN.rf⟩
  · rw [if_neg (fun q => c4 q.2.2.2)] at h; exact h m FX.rf
