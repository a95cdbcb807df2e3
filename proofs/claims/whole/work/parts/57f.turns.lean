/-! turns: the model's table -/
def tdA (S : Sta) (D : Day) (F : Nat) : Nat → Int32 × Int32 := fun L => tbA S D F L L
abbrev triA (x : Int32) : Prop := x = -1 ∨ x = 0 ∨ x = 1
set_option maxHeartbeats 200000 in
theorem triA_neg {x : Int32} (h : triA x) : triA (-x) := by
  rcases h with rfl | rfl | rfl
  · exact Or.inr (Or.inr (by decide))
  · exact Or.inr (Or.inl (by decide))
  · exact Or.inl (by decide)
set_option maxHeartbeats 200000 in
theorem triA_ge {x : Int32} (h : triA x) : -1 ≤ x := by
  rcases h with rfl | rfl | rfl <;> decide
set_option maxHeartbeats 200000 in
theorem f6_cg {S : Sta} {D : Day} {F L : Nat} {tb tc : Nat → Int32 × Int32} (h : ∀ k, k < 6 → hasN L k → tb (L - 2 ^ k) = tc (L - 2 ^ k)) : ∀ j, j ≤ 6 → f6A S D F tb L j = f6A S D F tc L j
  | 0, _ => rfl
  | k + 1, hk => by
    show (if hasN L k ∧ ¬ caA S D F tb L k ≤ (f6A S D F tb L k).1 then (caA S D F tb L k, nI k) else f6A S D F tb L k) = (if hasN L k ∧ ¬ caA S D F tc L k ≤ (f6A S D F tc L k).1 then (caA S D F tc L k, nI k) else f6A S D F tc L k)
    rw [f6_cg h k (by omega)]
    by_cases q : hasN L k
    · have e : caA S D F tb L k = caA S D F tc L k := by
        unfold caA
        rw [h k (by omega) q]
      rw [e]
    · rw [if_neg (fun u => q u.1), if_neg (fun u => q u.1)]
set_option maxHeartbeats 200000 in
theorem hn_pos : ∀ k, k < 6 → 0 < 2 ^ k := by decide
set_option maxHeartbeats 200000 in
theorem tdA_s {S : Sta} {D : Day} {F L : Nat} (hL : L < 64) (h0 : ¬ L = 0) : tdA S D F L = f6A S D F (tdA S D F) L 6 := by
  obtain ⟨n, rfl⟩ : ∃ n, L = n + 1 := ⟨L - 1, by omega⟩
  have e : tdA S D F (n + 1) = f6A S D F (tbA S D F n) (n + 1) 6 := if_pos rfl
  rw [e]
  refine f6_cg (fun k hk q => ?_) 6 (Nat.le_refl _)
  obtain ⟨-, b2⟩ := bt_1 k hk (n + 1) hL q
  have p2 := hn_pos k hk
  have st := tbA_st (S := S) (D := D) (F := F) (L := n + 1 - 2 ^ k) (n - (n + 1 - 2 ^ k))
  have e2 : n + 1 - 2 ^ k + (n - (n + 1 - 2 ^ k)) = n := by omega
  rw [e2] at st
  exact st
set_option maxHeartbeats 200000 in
theorem f6_tri {S : Sta} {D : Day} {F L : Nat} {tb : Nat → Int32 × Int32} (h : ∀ k, k < 6 → hasN L k → triA (tb (L - 2 ^ k)).1) : ∀ j, j ≤ 6 → triA (f6A S D F tb L j).1
  | 0, _ => Or.inl rfl
  | k + 1, hk => by
    show triA (if hasN L k ∧ ¬ caA S D F tb L k ≤ (f6A S D F tb L k).1 then (caA S D F tb L k, nI k) else f6A S D F tb L k).1
    by_cases q : hasN L k ∧ ¬ caA S D F tb L k ≤ (f6A S D F tb L k).1
    · rw [if_pos q]
      show triA (caA S D F tb L k)
      unfold caA
      by_cases w : loA S D (F - (L - 2 ^ k))
      · rw [if_pos w]; exact Or.inl rfl
      · rw [if_neg w]; exact triA_neg (h k (by omega) q.1)
    · rw [if_neg q]; exact f6_tri h k (by omega)
set_option maxHeartbeats 200000 in
theorem tdA_tri {S : Sta} {D : Day} {F : Nat} : ∀ n L, L < n → L < 64 → triA (tdA S D F L).1
  | 0, L, h, _ => absurd h (Nat.not_lt_zero L)
  | n + 1, L, h, hL => by
    by_cases q : L = 0
    · subst q; exact Or.inr (Or.inl rfl)
    · rw [tdA_s hL q]
      refine f6_tri (fun k hk w => ?_) 6 (Nat.le_refl _)
      obtain ⟨-, b2⟩ := bt_1 k hk L hL w
      have p2 := hn_pos k hk
      exact tdA_tri n _ (by omega) (by omega)
set_option maxHeartbeats 200000 in
theorem caA_ge {S : Sta} {D : Day} {F L k : Nat} (hL : L < 64) : -1 ≤ caA S D F (tdA S D F) L k := by
  unfold caA
  by_cases w : loA S D (F - (L - 2 ^ k))
  · rw [if_pos w]; decide
  · have sl := Nat.sub_le L (2 ^ k)
    have lt : L - 2 ^ k < 64 := Nat.lt_of_le_of_lt sl hL
    rw [if_neg w]; exact triA_ge (triA_neg (tdA_tri 64 _ lt lt))
/-- the falling fold, by what is left -/
def hA (S : Sta) (D : Day) (F L a : Nat) : Int32 × Int32 := g6A S D F (tdA S D F) L (6 - a)
set_option maxHeartbeats 200000 in
theorem hA_s {S : Sta} {D : Day} {F L a : Nat} (ha : a < 6) : hA S D F L a = if hasN L a ∧ (hA S D F L (a + 1)).1 ≤ caA S D F (tdA S D F) L a then (caA S D F (tdA S D F) L a, nI a) else hA S D F L (a + 1) := by
  unfold hA
  have e : 6 - a = (5 - a) + 1 := by omega
  have e2 : 6 - (a + 1) = 5 - a := by omega
  have e3 : 5 - (5 - a) = a := by omega
  rw [e, e2]
  show (if hasN L (5 - (5 - a)) ∧ _ then _ else _) = _
  rw [e3]
set_option maxHeartbeats 200000 in
theorem i32_tr {a b c : Int32} (h : a ≤ b) (h2 : b ≤ c) : a ≤ c := by
  rw [Int32.le_iff_toInt_le] at h h2 ⊢
  omega
set_option maxHeartbeats 200000 in
theorem i32_as {a b : Int32} (h : a ≤ b) (h2 : b ≤ a) : a = b := by
  rw [Int32.le_iff_toInt_le] at h h2
  exact Int32.toInt_inj.mp (by omega)
set_option maxHeartbeats 200000 in
theorem i32_rf {a : Int32} : a ≤ a := by
  rw [Int32.le_iff_toInt_le]
  exact Int.le_refl _
set_option maxHeartbeats 200000 in
theorem hA_1 {S : Sta} {D : Day} {F L a : Nat} (ha : a < 6) (q : hasN L a) : (hA S D F L a).1 = if caA S D F (tdA S D F) L a ≤ (hA S D F L (a + 1)).1 then (hA S D F L (a + 1)).1 else caA S D F (tdA S D F) L a := by
  rw [hA_s ha]
  by_cases w : (hA S D F L (a + 1)).1 ≤ caA S D F (tdA S D F) L a
  · rw [if_pos ⟨q, w⟩]
    by_cases w2 : caA S D F (tdA S D F) L a ≤ (hA S D F L (a + 1)).1
    · rw [if_pos w2]; exact i32_as w2 w
    · rw [if_neg w2]
  · rw [if_neg (fun u => w u.2), if_pos (i32_tot w)]
set_option maxHeartbeats 200000 in
theorem hA_ge {S : Sta} {D : Day} {F L k : Nat} (hk : k < 6) (q : hasN L k) : ∀ j, j ≤ k → caA S D F (tdA S D F) L k ≤ (hA S D F L (k - j)).1
  | 0, _ => by
    rw [Nat.sub_zero, hA_1 hk q]
    by_cases w : caA S D F (tdA S D F) L k ≤ (hA S D F L (k + 1)).1
    · rw [if_pos w]; exact w
    · rw [if_neg w]; exact i32_rf
  | j + 1, hj => by
    have ih := hA_ge (S := S) (D := D) (F := F) hk q j (by omega)
    have e : k - j = (k - (j + 1)) + 1 := by omega
    rw [e] at ih
    rw [hA_s (show k - (j + 1) < 6 by omega)]
    by_cases w : hasN L (k - (j + 1)) ∧ (hA S D F L (k - (j + 1) + 1)).1 ≤ caA S D F (tdA S D F) L (k - (j + 1))
    · rw [if_pos w]; exact i32_tr ih w.2
    · rw [if_neg w]; exact ih
set_option maxHeartbeats 200000 in
theorem hn_ex : ∀ L, L < 64 → ¬ L = 0 → hasN L 0 ∨ hasN L 1 ∨ hasN L 2 ∨ hasN L 3 ∨ hasN L 4 ∨ hasN L 5 := by decide
set_option maxHeartbeats 200000 in
theorem hn_ex2 {L : Nat} (hL : L < 64) (h0 : ¬ L = 0) : ∃ k, k < 6 ∧ hasN L k := by
  rcases hn_ex L hL h0 with h | h | h | h | h | h
  · exact ⟨0, by decide, h⟩
  · exact ⟨1, by decide, h⟩
  · exact ⟨2, by decide, h⟩
  · exact ⟨3, by decide, h⟩
  · exact ⟨4, by decide, h⟩
  · exact ⟨5, by decide, h⟩
set_option maxHeartbeats 200000 in
theorem hA_fin {S : Sta} {D : Day} {F L : Nat} (hL : L < 64) (h0 : ¬ L = 0) : (tdA S D F L).1 = (hA S D F L 0).1 ∧ (0 ≤ (tdA S D F L).1 → (tdA S D F L).2 = (hA S D F L 0).2) ∧ (¬ 0 ≤ (tdA S D F L).1 → (tdA S D F L).2 = -6) := by
  obtain ⟨k, hk, q⟩ := hn_ex2 hL h0
  have g := hA_ge (S := S) (D := D) (F := F) hk q k (Nat.le_refl _)
  rw [Nat.sub_self] at g
  have g1 : -1 ≤ (hA S D F L 0).1 := i32_tr (caA_ge hL) g
  have e := fg_6 (S := S) (D := D) (F := F) (tb := tdA S D F) (L := L) 6 (Nat.le_refl _)
  rw [← tdA_s hL h0] at e
  have e2 : tdA S D F L = if (hA S D F L 0).1 ≤ -1 then (-1, -6) else hA S D F L 0 := e
  by_cases w : (hA S D F L 0).1 ≤ -1
  · rw [if_pos w] at e2
    rw [e2]
    exact ⟨i32_as g1 w, fun u => absurd u (by decide), fun _ => rfl⟩
  · rw [if_neg w] at e2
    rw [e2]
    refine ⟨rfl, fun _ => rfl, fun u => ?_⟩
    have t := tdA_tri (S := S) (D := D) (F := F) 64 L hL hL
    rw [e2] at t
    rcases t with t | t | t
    · exact absurd (by rw [t]; exact i32_rf) w
    · exact absurd (by rw [t]; exact i32_rf) u
    · exact absurd (by rw [t]; decide) u
def bt5B (F T k : Nat) : Bool := !(decide (subA T F)) || decide (hasN (F - T) k ↔ (hasN F k ∧ ¬ hasN T k))
set_option maxHeartbeats 200000 in
theorem bt_5b : ∀ F, F < 64 → ∀ T, T < 64 → ∀ k, k < 6 → bt5B F T k = true := by decide +kernel
set_option maxHeartbeats 200000 in
theorem bt_5 (F : Nat) (hF : F < 64) (T : Nat) (hT : T < 64) (h : subA T F) (k : Nat) (hk : k < 6) : hasN (F - T) k ↔ hasN F k ∧ ¬ hasN T k := by
  have w := bt_5b F hF T hT k hk
  unfold bt5B at w
  rw [decide_eq_true h, Bool.not_true, Bool.false_or] at w
  exact of_decide_eq_true w
def bt6B (T k j : Nat) : Bool := decide (hasN T k) || !(decide (hasN (T + 2 ^ k) j)) || decide (j = k ∨ hasN T j)
set_option maxHeartbeats 200000 in
theorem bt_6b : ∀ T, T < 64 → ∀ k, k < 6 → ∀ j, j < 6 → bt6B T k j = true := by decide +kernel
set_option maxHeartbeats 200000 in
theorem bt_6 (T : Nat) (hT : T < 64) (k : Nat) (hk : k < 6) (hn : ¬ hasN T k) (j : Nat) (hj : j < 6) (h : hasN (T + 2 ^ k) j) : j = k ∨ hasN T j := by
  have w := bt_6b T hT k hk j hj
  unfold bt6B at w
  rw [decide_eq_true h, decide_eq_false hn, Bool.not_true, Bool.false_or, Bool.false_or] at w
  exact of_decide_eq_true w
set_option maxHeartbeats 200000 in
theorem sub_more {T F k : Nat} (hT : T < 64) (hk : k < 6) (h : subA T F) (hf : hasN F k) (hn : ¬ hasN T k) : subA (T + 2 ^ k) F := fun j hj w => by
  rcases bt_6 T hT k hk hn j hj w with rfl | q
  · exact hf
  · exact h j hj q
set_option maxHeartbeats 200000 in
theorem FN.val {m m' : Mo} (h : FN m m') : Mo_value m' = Mo_value m := by
  obtain ⟨a, b, c, f, s, o, d, rfl⟩ := h
  rfl
set_option maxHeartbeats 200000 in
theorem pX7_tin {m : Mo} {S : Sta} {D : Day} {sg : Nat → Nat} {cnt : Nat} {I J : Nat → Int32} {F T : Nat} {p2 : Int32} {Q : Int32 → Mo → Prop} {K : Mo → Int32 → Int32 → Int32 → Int32 → Prop} (hR : RMo m S D sg cnt I J) (hS : WS S) (hE : WE D) (hF : F < 64) (hT : T < 64) (hs : subA T F) (hK : ∀ (m2 : Mo) (x3 : Int32), FX m m2 → (∀ X, T < X → X < 64 → subA X F → Mo_value m2 X = (tdA S D F (F - X)).1) → Mo_value m2 T = (if T = F then 0 else (hA S D F (F - T) 0).1) → x3 = (if T = 0 ∧ ¬ T = F then (hA S D F (F - T) 0).2 else -6) → K m2 (nI F) p2 x3 (nI T + (-1))) : ∀ a, a ≤ 6 → ∀ (m2 : Mo) (x3 : Int32), FX m m2 → (∀ X, T < X → X < 64 → subA X F → Mo_value m2 X = (tdA S D F (F - X)).1) → Mo_value m2 T = (if T = F then 0 else (hA S D F (F - T) a).1) → x3 = (if T = 0 ∧ ¬ T = F then (hA S D F (F - T) a).2 else -6) → wpX7_turns_L58 Q K (a + 1) m2 (nI F) p2 x3 (nI T) (nI a + (-1)) := by
  intro a
  induction a with
  | zero =>
    intro _ m2 x3 hX hv hT1 h3
    show wpX7_turns_H58 Q K _ _ _ _ _ _ _
    unfold wpX7_turns_H58
    refine br_t (by decide) ?_
    unfold wpX7_turns_B183
    exact nm_e (hK m2 x3 hX hv hT1 h3)
  | succ a iha =>
    intro ha m2 x3 hX hv hT1 h3
    rw [pk_m1 a]
    show wpX7_turns_H58 Q K _ _ _ _ _ _ _
    unfold wpX7_turns_H58
    have skip : ¬ hasN (F - T) a → wpX7_turns_B177 Q K (wpX7_turns_L58 Q K (a + 1)) m2 (nI F) p2 x3 (nI T) (nI a) := by
      intro q
      unfold wpX7_turns_B177
      have e : hA S D F (F - T) a = hA S D F (F - T) (a + 1) := by
        rw [hA_s (show a < 6 by omega), if_neg (fun u => q u.1)]
      refine nm_e (iha (by omega) m2 x3 hX hv ?_ ?_)
      · rw [e]; exact hT1
      · rw [e]; exact h3
    refine br_f (nI_pos (by omega)) (bn_f ((bt_2 F hF T hT).mpr hs) ?_)
    refine pX7_has (by omega) (by omega) (fun q1 => br_f one_ne ?_) (fun q1 => br_t rfl (skip (fun u => q1 ((bt_5 F hF T hT hs a (by omega)).mp u).1)))
    refine pX7_has (by omega) (by omega) (fun q2 => bn_t one_ne (skip (fun u => ((bt_5 F hF T hT hs a (by omega)).mp u).2 q2))) (fun q2 => bn_f rfl ?_)
    have qL : hasN (F - T) a := (bt_5 F hF T hT hs a (by omega)).mpr ⟨q1, q2⟩
    obtain ⟨l1, l2⟩ := lor_1 a (by omega) T hT q2
    have p2' := hn_pos a (by omega)
    have sm := sub_more hT (by omega) hs q1 q2
    have le := (bt_3 F hF _ l2 sm).2
    have nF : ¬ T = F := by omega
    have eF : F - (F - T - 2 ^ a) = T + 2 ^ a := by omega
    have eF2 : F - T - 2 ^ a = F - (T + 2 ^ a) := by omega
    refine nm_r l1 ?_
    rw [if_neg nF] at hT1
    have go : ∀ (m3 : Mo) (gn : Int32), FX m m3 → Mo_value m3 = Mo_value m2 → gn = caA S D F (tdA S D F) (F - T) a → wpX7_turns_B121 Q K (wpX7_turns_L58 Q K (a + 1)) m3 (nI F) p2 x3 (nI T) (nI a) gn := by
      intro m3 gn hX3 ev hg
      have fin : ∀ f3 : Int32, f3 = (if T = 0 ∧ ¬ T = F then (hA S D F (F - T) a).2 else -6) → wpX7_turns_B145 Q K (wpX7_turns_L58 Q K (a + 1)) m3 (nI F) p2 (nI T) (nI a) gn f3 := by
        intro f3 hf3
        have last : ∀ v : Int32, v = (hA S D F (F - T) a).1 → wpX7_turns_B176 Q K (wpX7_turns_L58 Q K (a + 1)) m3 (nI F) p2 f3 (nI T) (nI a) (nI T) v := by
          intro v hv9
          unfold wpX7_turns_B176 wpX7_turns_B177
          refine ⟨vp_in_nI (by omega) (by decide), nm_e (iha (by omega) _ f3 (hX3.value _) (fun X hX1 hX2 hs2 => ?_) ?_ hf3)⟩
          · show upd (Mo_value m3) (nI T).toNatClampNeg v X = _
            rw [nI_clamp (show T < 2 ^ 31 by omega)]
            unfold upd
            rw [if_neg (by omega), ev]
            exact hv X hX1 hX2 hs2
          · show upd (Mo_value m3) (nI T).toNatClampNeg v T = _
            rw [nI_clamp (show T < 2 ^ 31 by omega)]
            unfold upd
            rw [if_pos rfl, if_neg nF]
            exact hv9
        unfold wpX7_turns_B145
        rw [nI_clamp (show T < 2 ^ 31 by omega), ev, hT1]
        refine ⟨vp_in_nI (by omega) (by decide), ⟨fun w => ⟨vp_in_nI (by omega) (by decide), last _ ?_⟩, fun w => last _ ?_⟩⟩
        · rw [hA_1 (show a < 6 by omega) qL, ← hg, if_pos w]
        · rw [hA_1 (show a < 6 by omega) qL, ← hg, if_neg w]
      unfold wpX7_turns_B121
      refine pk_ne T 0 (fun w => ?_) (fun w => ?_)
      · unfold wpX7_turns_B144
        refine fin x3 ?_
        rw [h3, if_neg (fun u => w u.1), if_neg (fun u => w u.1)]
      · have e0 : ((0 : Int32)).toNatClampNeg = T := by rw [w]; rfl
        rw [e0, ev, hT1]
        rw [if_pos ⟨w, nF⟩] at h3
        refine ⟨vp_in_nI (n := 0) (by decide) (by decide), ⟨fun u => ?_, fun u => ?_⟩⟩
        · unfold wpX7_turns_B144
          refine fin x3 ?_
          rw [if_pos ⟨w, nF⟩, hA_s (show a < 6 by omega), if_neg, h3]
          intro t
          rw [← hg] at t
          rw [Int32.lt_iff_toInt_lt] at u
          have t2 := t.2
          rw [Int32.le_iff_toInt_le] at t2
          omega
        · refine fin (nI a) ?_
          rw [if_pos ⟨w, nF⟩, hA_s (show a < 6 by omega), if_pos]
          refine ⟨qL, ?_⟩
          rw [← hg]
          rw [Int32.lt_iff_toInt_lt] at u
          rw [Int32.le_iff_toInt_le]
          omega
    refine pX7_isOverBy (hX.R hR) hS hE l2 (fun w m3 hF3 => br_f one_ne (go m3 _ (hX.trans hF3.X) hF3.val ?_)) (fun w m3 hF3 => br_t rfl ⟨vp_in_nI (by omega) (by decide), go m3 _ (hX.trans hF3.X) hF3.val ?_⟩)
    · unfold caA
      rw [eF, if_pos w]
    · unfold caA
      rw [eF, if_neg w, nI_clamp (show T + 2 ^ a < 2 ^ 31 by omega), hF3.val, hv _ (by omega) l2 sm, eF2]
set_option maxHeartbeats 200000 in
theorem pX7_turns {m : Mo} {S : Sta} {D : Day} {sg : Nat → Nat} {cnt : Nat} {I J : Nat → Int32} {p1 p2 : Int32} {Q : Int32 → Mo → Prop} (hR : RMo m S D sg cnt I J) (hS : WS S) (hE : WE D) (h : ∀ m', FX m m' → Q (turnsA S D p1 p2) m') : wpX7_turns m p1 p2 Q := by
  unfold turnsA at h
  unfold wpX7_turns
  refine ck2X7_in (fun c1 => ?_) (fun c1 => ?_)
  · rw [if_pos c1] at h
    refine ck2X7_in (fun c2 => ?_) (fun c2 => ?_)
    · rw [if_pos c2] at h
      obtain ⟨F, hF, rfl⟩ := inR_nI (n := 63) (by decide) c1
      rw [nI_clamp (show F < 2 ^ 31 by omega)] at h
      have key : ∀ n, n ≤ 64 → ∀ (m2 : Mo) (x3 : Int32), FX m m2 → (∀ X, n ≤ X → X < 64 → subA X F → Mo_value m2 X = (tdA S D F (F - X)).1) → x3 = (if n = 0 ∧ ¬ 0 = F then (hA S D F F 0).2 else -6) → wpX7_turns_L31 Q (n + 1) m2 (nI F) p2 x3 (nI n + (-1)) := by
        intro n
        induction n with
        | zero =>
          intro _ m2 x3 hX hv h3
          show wpX7_turns_H31 Q _ _ _ _ _ _
          unfold wpX7_turns_H31
          refine br_t (by decide) ?_
          have e0 : Mo_value m2 ((0 : Int32)).toNatClampNeg = (trA S D F).1 := hv 0 (Nat.le_refl _) (by decide) (fun j hj w => absurd w (by show ¬ 0 / 2 ^ j % 2 = 1; rw [Nat.zero_div]; decide))
          have tr : triA (trA S D F).1 := tdA_tri 64 F (by omega) (by omega)
          rw [e0]
          have h' := h m2 hX
          have p20 : p2 = 0 ∨ p2 = 1 := by
            obtain ⟨j, hj, rfl⟩ := inR_nI (n := 1) (by decide) c2
            rcases (show j = 0 ∨ j = 1 by omega) with rfl | rfl
            · exact Or.inl rfl
            · exact Or.inr rfl
          refine bn_c (fun w => ⟨vp_in_nI (n := 0) (by decide) (by decide), bn_c (fun u => ⟨vp_in_nI (n := 0) (by decide) (by decide), ⟨fun t => ?_, fun t => ?_⟩⟩) (fun u => ?_)⟩) (fun w => ⟨vp_in_nI (n := 0) (by decide) (by decide), ⟨fun u => ?_, fun u => ?_⟩⟩)
          · have p0 : p2 = 0 := by rcases p20 with q | q; exact q; exact absurd q w
            rw [if_pos p0, if_neg u, if_neg] at h'
            · exact h'
            · intro v; rw [v] at t; exact absurd t (by decide)
          · have p0 : p2 = 0 := by rcases p20 with q | q; exact q; exact absurd q w
            rw [if_pos p0, if_neg u, if_pos] at h'
            · exact h'
            · rcases tr with v | v | v
              · rw [v] at t; exact absurd (by decide) t
              · exact absurd v u
              · exact v
          · have p0 : p2 = 0 := by rcases p20 with q | q; exact q; exact absurd q w
            rw [if_pos p0, if_pos u] at h'
            exact h'
          · rw [if_neg (by rw [w]; exact one_ne)] at h'
            have e : (trA S D F).2 = x3 := by
              by_cases z : 0 = F
              · rw [if_neg (fun t => t.2 z)] at h3
                rw [h3, ← z]; rfl
              · rw [if_pos ⟨rfl, z⟩] at h3
                rw [h3]
                exact (hA_fin (by omega) (fun t => z t.symm)).2.1 u
            rw [e] at h'
            exact h'
          · rw [if_neg (by rw [w]; exact one_ne)] at h'
            have e : (trA S D F).2 = -6 := by
              by_cases z : 0 = F
              · rw [← z]; rfl
              · exact (hA_fin (by omega) (fun t => z t.symm)).2.2 u
            rw [e] at h'
            exact h'
        | succ n ih =>
          intro hn m2 x3 hX hv h3
          rw [pk_m1 n]
          rw [if_neg (fun t => Nat.succ_ne_zero n t.1)] at h3
          show wpX7_turns_H31 Q _ _ _ _ _ _
          unfold wpX7_turns_H31
          refine br_f (nI_pos (by omega)) ?_
          have go : ∀ v : Int32, v = (if n = F then 0 else -2) → wpX7_turns_B54 Q (wpX7_turns_L31 Q (n + 1)) m2 (nI F) p2 x3 (nI n) (nI n) v := by
            intro v hv9
            have e6 : (5 : Int32) = nI 6 + (-1) := by decide
            have ov : ∀ X, n < X → X < 64 → subA X F → Mo_value (Mo_s_value m2 (upd (Mo_value m2) (nI n).toNatClampNeg v)) X = (tdA S D F (F - X)).1 := by
              intro X h1 h2 hs
              show upd (Mo_value m2) (nI n).toNatClampNeg v X = _
              rw [nI_clamp (show n < 2 ^ 31 by omega)]
              unfold upd
              rw [if_neg (by omega)]
              exact hv X (by omega) h2 hs
            unfold wpX7_turns_B54
            rw [e6]
            refine ⟨vp_in_nI (by omega) (by decide), ?_⟩
            by_cases hs : subA n F
            · refine ⟨7, pX7_tin hR hS hE (by omega) (by omega) hs (fun m3 y3 hX3 hv3 hT3 hy3 => ?_) 6 (Nat.le_refl _) _ x3 (hX.value _) ov ?_ ?_⟩
              · have lF := (bt_3 F (by omega) n (by omega) hs).2
                refine ih (by omega) m3 y3 hX3 (fun X h1 h2 hs2 => ?_) ?_
                · by_cases q : X = n
                  · rw [q, hT3]
                    by_cases z : n = F
                    · rw [if_pos z, z, Nat.sub_self]; rfl
                    · rw [if_neg z]
                      exact (hA_fin (by omega) (by omega)).1.symm
                  · exact hv3 X (by omega) h2 hs2
                · rw [hy3]
                  by_cases z : n = 0
                  · rw [z, Nat.sub_zero]
                  · rw [if_neg (fun t => z t.1), if_neg (fun t => z t.1)]
              · show upd (Mo_value m2) (nI n).toNatClampNeg v n = _
                rw [nI_clamp (show n < 2 ^ 31 by omega)]
                unfold upd
                rw [if_pos rfl]
                exact hv9
              · rw [h3]
                split <;> rfl
            · refine ⟨1, ?_⟩
              show wpX7_turns_H58 Q _ _ _ _ _ _ _ _
              unfold wpX7_turns_H58
              refine br_f (by decide) (bn_t (fun w => hs ((bt_2 F (by omega) n (by omega)).mp w)) ?_)
              unfold wpX7_turns_B183
              refine nm_e (ih (by omega) _ x3 (hX.value _) (fun X h1 h2 hs2 => ?_) ?_)
              · by_cases q : X = n
                · exact absurd (q ▸ hs2) hs
                · exact ov X (by omega) h2 hs2
              · rw [h3, if_neg]
                intro t
                refine hs (fun j hj w => ?_)
                rw [t.1] at w
                exact absurd w (by show ¬ 0 / 2 ^ j % 2 = 1; rw [Nat.zero_div]; decide)
          exact pk_ne n F (fun q => go _ (by rw [if_neg q])) (fun q => go _ (by rw [if_pos q]))
      refine ⟨65, ?_⟩
      have e63 : (63 : Int32) = nI 64 + (-1) := by decide
      have k := key 64 (Nat.le_refl _) m (-6) FX.rf (fun X h1 h2 _ => absurd h2 (by omega)) (by rw [if_neg (fun t => absurd t.1 (by decide))])
      rw [← e63] at k
      exact k
    · rw [if_neg c2] at h; exact h m FX.rf
  · rw [if_neg c1] at h; exact h m FX.rf
