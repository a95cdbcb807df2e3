/-! spoil, apart -/
set_option maxHeartbeats 200000 in
theorem wearA_WD {ds : Nat → Nat} {k : Nat} {D : Day} (hd : ∀ j, ds j ≤ 99) (hs : ∀ j, zsh D j ≤ 90000) (hD : WD D) : WD (wearA ds k D) := ⟨fun j => by
  show zsh D j + ds (3 * k + j) ≤ 99999
  have h1 := hs j
  have h2 := hd (3 * k + j)
  omega, hD.2⟩
def spoilE (S : Sta) (kp : Nat → Nat) (k q d c : Nat) : Int32 := nI (ecA (zoff S) kp (zds S (3 * k + c) + zds S (3 * q + c)) d) - nI (ecA (zoff S) kp (zds S (3 * k + c)) d) - nI (ecA (zoff S) kp (zds S (3 * q + c)) d)
def spoilA (S : Sta) (D : Day) (p1 p2 p3 : Int32) : Int32 := if inR p1 0 5 ∧ inR p2 0 5 ∧ ¬ p1 = p2 then (if inR p3 0 60 then 3000 + spoilE S (zkp D) p1.toNatClampNeg p2.toNatClampNeg p3.toNatClampNeg 0 + spoilE S (zkp D) p1.toNatClampNeg p2.toNatClampNeg p3.toNatClampNeg 1 + spoilE S (zkp D) p1.toNatClampNeg p2.toNatClampNeg p3.toNatClampNeg 2 else -2) else -1
set_option maxHeartbeats 200000 in
theorem pX6_spoil {g : Gr} {co : Co} {S : Sta} {D : Day} {p1 p2 p3 : Int32} {Q : Int32 → Gr → Co → Prop} (hR : RG g S D) (hS : WS S) (hD : WD D) (h : ∀ co', Q (spoilA S D p1 p2 p3) g co') : wpX6_spoil g co p1 p2 p3 Q := by
  unfold spoilA at h
  unfold wpX6_spoil
  refine ck1X6_isDress (fun c1 => ?_) (fun c1 => ?_)
  · rw [if_neg (fun q => c1 q.1)] at h; exact h co
  refine ck1X6_isDress (fun c2 => ?_) (fun c2 => ?_)
  · rw [if_neg (fun q => c2 q.2.1)] at h; exact h co
  refine bn_c (fun c3 => ?_) (fun c3 => ?_)
  · rw [if_pos ⟨c1, c2, c3⟩] at h
    refine ck2X6_isAhead (fun c4 => ?_) (fun c4 => ?_)
    · rw [if_pos c4] at h
      obtain ⟨k, hk, rfl⟩ := inR_nI (n := 5) (by decide) c1
      obtain ⟨q, hq, rfl⟩ := inR_nI (n := 5) (by decide) c2
      obtain ⟨d, hd, rfl⟩ := inR_nI (n := 60) (by decide) c4
      rw [nI_clamp (show k < 2 ^ 31 by omega), nI_clamp (show q < 2 ^ 31 by omega), nI_clamp (show d < 2 ^ 31 by omega)] at h
      let X : Nat → Int32 := fun c => if c = 0 then 3000 else if c = 1 then 3000 + spoilE S (zkp D) k q d 0 else if c = 2 then 3000 + spoilE S (zkp D) k q d 0 + spoilE S (zkp D) k q d 1 else 3000 + spoilE S (zkp D) k q d 0 + spoilE S (zkp D) k q d 1 + spoilE S (zkp D) k q d 2
      have key : ∀ c, c ≤ 3 → ∃ n, ∀ co : Co, wpX6_spoil_L39 Q n g co (nI k) (nI q) (nI d) (X c) (nI c) := by
        refine up_loop 3 (fun n => ?_) (fun n c hc ih => ?_)
        · intro co
          show wpX6_spoil_H39 Q _ _ _ _ _ _ _ _
          unfold wpX6_spoil_H39
          exact br_t (nI_le (by decide) (by decide)) (h co)
        · intro co
          show wpX6_spoil_H39 Q _ _ _ _ _ _ _ _
          unfold wpX6_spoil_H39
          have d1 := hS.2.1 (3 * k + c)
          have d2 := hS.2.1 (3 * q + c)
          refine br_f (nI_ge hc (by decide)) ?_
          refine pX3_worth hR (by omega) hc ?_
          refine pX3_worth hR (by omega) hc ?_
          rw [n_add]
          refine pX6_echoAlone hR hS hD (by omega) hd (fun co1 => ?_)
          refine pX6_echoAlone hR hS hD (by omega) hd (fun co2 => ?_)
          refine pX6_echoAlone hR hS hD (by omega) hd (fun co3 => ?_)
          refine nm_r (e' := X (c + 1)) ?_ (nm_r (nI_1 c) (ih co3))
          rcases (show c = 0 ∨ c = 1 ∨ c = 2 by omega) with rfl | rfl | rfl
          · rfl
          · rfl
          · rfl
      obtain ⟨n, hn⟩ := key 0 (by decide)
      exact ⟨n, hn co⟩
    · rw [if_neg c4] at h; exact h co
  · rw [if_neg (fun q => q.2.2 c3)] at h; exact h co
set_option maxHeartbeats 200000 in
theorem spoil_ring (a0 a1 a2 b0 b1 b2 c0 c1 c2 : Int32) : a0 + a1 + a2 - (b0 + b1 + b2) - (c0 + c1 + c2) + 3000 = 3000 + (a0 - b0 - c0) + (a1 - b1 - c1) + (a2 - b2 - c2) := by grind
set_option maxHeartbeats 200000 in
theorem pX7_allBehind2 {m : Mo} {S : Sta} {D : Day} {k q d : Nat} {Q : Int32 → Mo → Prop} (hM : RMS m S) (hP : RP m D) (hS : WS S) (hD : WD D) (hy : zdy D ≤ 99) (hk : k < 6) (hq : q < 6) (hd : d ≤ 60) (h : ∀ m', FN m m' → Q (nI (ecA (zoff S) (zkp D) (zds S (3 * k + 0) + zds S (3 * q + 0)) d + ecA (zoff S) (zkp D) (zds S (3 * k + 1) + zds S (3 * q + 1)) d + ecA (zoff S) (zkp D) (zds S (3 * k + 2) + zds S (3 * q + 2)) d)) m') : wpX7_allBehind m (nI k) (nI q) (nI d) Q := by
  unfold wpX7_allBehind
  have hE := emptyA_WD hD
  have hW1 : WD (wearA (zds S) k (emptyA D)) := wearA_WD hS.2.1 (fun j => Nat.zero_le _) hE
  have hW2 : WD (wearA (zds S) q (wearA (zds S) k (emptyA D))) := wearA_WD hS.2.1 (fun j => by
    show 0 + zds S (3 * k + j) ≤ 90000
    have := hS.2.1 (3 * k + j)
    omega) hW1
  refine pX7_empty hP (fun m1 hF1 hN1 => ?_)
  refine pX7_wear (hF1.S hM) hN1 hk (fun m2 hF2 hN2 => ?_)
  have hFa := hF1.trans hF2
  refine br_f (nI_pos (by omega)) ?_
  refine pX7_wear (hFa.S hM) hN2 hq (fun m3 hF3 hN3 => ?_)
  have hFb := hFa.trans hF3
  unfold wpX7_allBehind_B18
  refine pX7_waits (hFb.S hM) hN3 hS hW2 (by omega) (show zdy D + d ≤ 1000 by omega) (fun m4 hF4 hN4 => ?_)
  have hFc := hFb.trans hF4
  refine pX7_seeAll (hFc.S hM) hN4 hS (waitA_WD hW2 d (show zdy D + d ≤ 1000 by omega)) ?_
  have es : ∀ c, seeA (zoff S) (waitA (zoff S) d (wearA (zds S) q (wearA (zds S) k (emptyA D)))) c 0 = ecA (zoff S) (zkp D) (zds S (3 * k + c) + zds S (3 * q + c)) d := by
    intro c
    refine see_empty hS.1 d ?_ rfl
    show 0 + zds S (3 * k + c) + zds S (3 * q + c) = _
    omega
  rw [es, es, es]
  exact h m4 hFc
set_option maxHeartbeats 200000 in
theorem pX7_allBehind1 {m : Mo} {S : Sta} {D : Day} {k d : Nat} {Q : Int32 → Mo → Prop} (hM : RMS m S) (hP : RP m D) (hS : WS S) (hD : WD D) (hy : zdy D ≤ 99) (hk : k < 6) (hd : d ≤ 60) (h : ∀ m', FN m m' → Q (nI (ecA (zoff S) (zkp D) (zds S (3 * k + 0)) d + ecA (zoff S) (zkp D) (zds S (3 * k + 1)) d + ecA (zoff S) (zkp D) (zds S (3 * k + 2)) d)) m') : wpX7_allBehind m (nI k) (-6) (nI d) Q := by
  unfold wpX7_allBehind
  have hE := emptyA_WD hD
  have hW1 : WD (wearA (zds S) k (emptyA D)) := wearA_WD hS.2.1 (fun j => Nat.zero_le _) hE
  refine pX7_empty hP (fun m1 hF1 hN1 => ?_)
  refine pX7_wear (hF1.S hM) hN1 hk (fun m2 hF2 hN2 => ?_)
  have hFa := hF1.trans hF2
  refine br_t (by decide) ?_
  unfold wpX7_allBehind_B18
  refine pX7_waits (hFa.S hM) hN2 hS hW1 (by omega) (show zdy D + d ≤ 1000 by omega) (fun m4 hF4 hN4 => ?_)
  have hFc := hFa.trans hF4
  refine pX7_seeAll (hFc.S hM) hN4 hS (waitA_WD hW1 d (show zdy D + d ≤ 1000 by omega)) ?_
  have es : ∀ c, seeA (zoff S) (waitA (zoff S) d (wearA (zds S) k (emptyA D))) c 0 = ecA (zoff S) (zkp D) (zds S (3 * k + c)) d := by
    intro c
    refine see_empty hS.1 d ?_ rfl
    show 0 + zds S (3 * k + c) = _
    omega
  rw [es, es, es]
  exact h m4 hFc
set_option maxHeartbeats 200000 in
theorem pX7_spoil {m : Mo} {S : Sta} {D : Day} {sg : Nat → Nat} {cnt : Nat} {I J : Nat → Int32} {p1 p2 p3 : Int32} {Q : Int32 → Mo → Prop} (hR : RMo m S D sg cnt I J) (hS : WS S) (hD : WD D) (hy : zdy D ≤ 99) (h : ∀ m', FX m m' → Q (spoilA S D p1 p2 p3) m') : wpX7_spoil m p1 p2 p3 Q := by
  unfold spoilA at h
  unfold wpX7_spoil
  refine ck1X7_in (fun c1 => ?_) (fun c1 => ?_)
  · rw [if_neg (fun q => c1 q.1)] at h; exact h m FX.rf
  refine ck1X7_in (fun c2 => ?_) (fun c2 => ?_)
  · rw [if_neg (fun q => c2 q.2.1)] at h; exact h m FX.rf
  refine bn_c (fun c3 => ?_) (fun c3 => ?_)
  · rw [if_pos ⟨c1, c2, c3⟩] at h
    refine ck2X7_isDay (fun c4 => ?_) (fun c4 => ?_)
    · rw [if_pos c4] at h
      obtain ⟨k, hk, rfl⟩ := inR_nI (n := 5) (by decide) c1
      obtain ⟨q, hq, rfl⟩ := inR_nI (n := 5) (by decide) c2
      obtain ⟨d, hd, rfl⟩ := inR_nI (n := 60) (by decide) c4
      rw [nI_clamp (show k < 2 ^ 31 by omega), nI_clamp (show q < 2 ^ 31 by omega), nI_clamp (show d < 2 ^ 31 by omega)] at h
      refine pX7_allBehind2 hR.1 hR.2.1 hS hD hy (by omega) (by omega) hd (fun m1 hF1 => ?_)
      refine pX7_allBehind1 (hF1.S hR.1) (hF1.P hR.2.1) hS hD hy (by omega) hd (fun m2 hF2 => ?_)
      have hFa := hF1.trans hF2
      refine pX7_allBehind1 (hFa.S hR.1) (hFa.P hR.2.1) hS hD hy (by omega) hd (fun m3 hF3 => ?_)
      rw [← n_add, ← n_add, ← n_add, ← n_add, ← n_add, ← n_add, spoil_ring]
      exact h m3 (hFa.trans hF3).X
    · rw [if_neg c4] at h; exact h m FX.rf
  · rw [if_neg (fun q => q.2.2 c3)] at h; exact h m FX.rf
/-! apart -/
/-- the twos (l, ..) from place 6 - n on: the i-th found, or how many then -/
def apIn (P : Nat → Nat → Bool) (i : Int32) (l : Nat) : Nat → Nat → Option Nat × Nat
  | 0, c => (none, c)
  | n + 1, c => if P l (5 - n) then (if nI c = i then (some (10 * l + (5 - n)), c) else apIn P i l n (c + 1)) else apIn P i l n c
def apOut (P : Nat → Nat → Bool) (i : Int32) : Nat → Nat → Option Nat × Nat
  | 0, c => (none, c)
  | n + 1, c => match apIn P i (5 - n) n c with
    | (some r, c') => (some r, c')
    | (none, c') => apOut P i n c'
set_option maxHeartbeats 200000 in
theorem apIn_le {P : Nat → Nat → Bool} {i : Int32} {l : Nat} : ∀ n c, (apIn P i l n c).2 ≤ c + n
  | 0, c => Nat.le_refl _
  | n + 1, c => by
    unfold apIn
    have h1 := apIn_le (P := P) (i := i) (l := l) n (c + 1)
    have h2 := apIn_le (P := P) (i := i) (l := l) n c
    split
    · split
      · show c ≤ _; omega
      · omega
    · omega
def apRes (P : Nat → Nat → Bool) (i : Int32) : Int32 := match apOut P i 6 0 with
  | (some r, _) => nI r
  | (none, c) => if i = -1 then nI c else -6
def apP (off kp ds : Nat → Nat) (set d : Nat) : Nat → Nat → Bool := fun l q => decide (hasN set l) && decide (hasN set q) && decide (ecA off kp (ds (3 * l)) d = ecA off kp (ds (3 * q)) d ∧ ecA off kp (ds (3 * l + 1)) d = ecA off kp (ds (3 * q + 1)) d ∧ ecA off kp (ds (3 * l + 2)) d = ecA off kp (ds (3 * q + 2)) d)
def apartA (S : Sta) (D : Day) (p1 p2 p3 : Int32) : Int32 := if inR p1 0 63 then (if inR p2 0 60 then apRes (apP (zoff S) (zkp D) (zds S) p1.toNatClampNeg p2.toNatClampNeg) p3 else -2) else -1
set_option maxHeartbeats 200000 in
theorem pX6_fillEchoes {g : Gr} {co : Co} {e : Ec} {S : Sta} {D : Day} {d : Nat} {Q : Gr → Co → Ec → Prop} (hR : RG g S D) (hS : WS S) (hD : WD D) (hd : d ≤ 60) (h : ∀ co' e', aI 18 (Ec_echoes e') (fun j => ecA (zoff S) (zkp D) (zds S j) d) → Q g co' e') : wpX6_fillEchoes g co e (nI d) Q := by
  unfold wpX6_fillEchoes
  have key : ∀ k, k ≤ 6 → ∃ n, ∀ (co : Co) (e : Ec), aI (3 * k) (Ec_echoes e) (fun j => ecA (zoff S) (zkp D) (zds S j) d) → wpX6_fillEchoes_L2 Q n g co e (nI d) (nI k) := by
    refine up_loop 6 (fun n => ?_) (fun n k hk ih => ?_)
    · intro co e he
      show wpX6_fillEchoes_H2 Q _ _ _ _ _ _
      unfold wpX6_fillEchoes_H2
      exact br_t (nI_le (by decide) (by decide)) (h co e he)
    · intro co e he
      show wpX6_fillEchoes_H2 Q _ _ _ _ _ _
      unfold wpX6_fillEchoes_H2
      refine br_f (nI_ge hk (by decide)) ?_
      have key2 : ∀ c, c ≤ 3 → ∃ n2, ∀ (co : Co) (e : Ec), aI (3 * k + c) (Ec_echoes e) (fun j => ecA (zoff S) (zkp D) (zds S j) d) → wpX6_fillEchoes_L10 Q (wpX6_fillEchoes_L2 Q n) n2 g co e (nI d) (nI k) (nI c) := by
        refine up_loop 3 (fun n2 => ?_) (fun n2 c hc ih2 => ?_)
        · intro co e he
          show wpX6_fillEchoes_H10 Q _ _ _ _ _ _ _ _
          unfold wpX6_fillEchoes_H10
          refine br_t (nI_le (by decide) (by decide)) (nm_r (nI_1 k) (ih co e ?_))
          rw [Nat.mul_add]; exact he
        · intro co e he
          show wpX6_fillEchoes_H10 Q _ _ _ _ _ _ _ _
          unfold wpX6_fillEchoes_H10
          have d1 := hS.2.1 (3 * k + c)
          refine br_f (nI_ge hc (by decide)) ?_
          refine pX3_worth hR (by omega) hc ?_
          refine pX6_echoAlone hR hS hD (by omega) hd (fun co1 => ?_)
          have e0 : nI k * 3 + nI c = nI (3 * k + c) := by simp (disch := omega) only [k_0, k_1, k_2, k_3, k_4, k_5, k_6, k_7, k_8, k_9, k_10, k_15, k_16, k_18, k_20, k_26, k_27, k_31, k_33, k_46, k_48, k_49, k_51, k_53, k_57, k_60, k_61, k_63, k_64, k_65, k_70, k_71, k_74, k_75, k_80, k_81, k_82, k_83, k_84, k_85, k_98, k_99, k_100, k_102, k_114, k_115, k_119, k_121, k_126, k_200, k_999, k_1000, k_3000, k_9999, k_65537, k_1000000, k_999999999, k_500, n_mul, n_add, n_sub, n_div]; first | rfl | (congr 1; omega)
          rw [e0]
          refine ⟨vp_in_nI (by omega) (by decide), nm_r (nI_1 c) (ih2 co1 _ (fun j hj => ?_))⟩
          show upd (Ec_echoes e) (nI (3 * k + c)).toNatClampNeg _ j = _
          rw [nI_clamp (show 3 * k + c < 2 ^ 31 by omega)]
          unfold upd
          split
          · rename_i q; rw [q]
          · exact he j (by omega)
      obtain ⟨n2, hn2⟩ := key2 0 (by decide)
      exact ⟨n2, hn2 co e he⟩
  obtain ⟨n, hn⟩ := key 0 (by decide)
  exact ⟨n, hn co e (fun j hj => absurd hj (by omega))⟩
set_option maxHeartbeats 200000 in
theorem pX6_echoAlike {e : Ec} {f : Nat → Nat} {l q : Nat} {Q : Int32 → Ec → Prop} (he : aI 18 (Ec_echoes e) f) (hf : ∀ j, f j ≤ 999) (hl : l < 6) (hq : q < 6) (h1 : (f (3 * l) = f (3 * q) ∧ f (3 * l + 1) = f (3 * q + 1) ∧ f (3 * l + 2) = f (3 * q + 2)) → Q 1 e) (h0 : ¬ (f (3 * l) = f (3 * q) ∧ f (3 * l + 1) = f (3 * q + 1) ∧ f (3 * l + 2) = f (3 * q + 2)) → Q 0 e) : wpX6_echoAlike e (nI l) (nI q) Q := by
  unfold wpX6_echoAlike
  have key : ∀ c, c ≤ 3 → ∃ n, (∀ k, k < c → f (3 * l + k) = f (3 * q + k)) → wpX6_echoAlike_L2 Q n e (nI l) (nI q) (nI c) := by
    refine up_loop 3 (fun n => ?_) (fun n c hc ih => ?_)
    · intro ha
      show wpX6_echoAlike_H2 Q _ _ _ _ _
      unfold wpX6_echoAlike_H2
      exact br_t (nI_le (by decide) (by decide)) (h1 ⟨ha 0 (by decide), ha 1 (by decide), ha 2 (by decide)⟩)
    · intro ha
      show wpX6_echoAlike_H2 Q _ _ _ _ _
      unfold wpX6_echoAlike_H2
      have e0 : nI l * 3 + nI c = nI (3 * l + c) := by simp (disch := omega) only [k_0, k_1, k_2, k_3, k_4, k_5, k_6, k_7, k_8, k_9, k_10, k_15, k_16, k_18, k_20, k_26, k_27, k_31, k_33, k_46, k_48, k_49, k_51, k_53, k_57, k_60, k_61, k_63, k_64, k_65, k_70, k_71, k_74, k_75, k_80, k_81, k_82, k_83, k_84, k_85, k_98, k_99, k_100, k_102, k_114, k_115, k_119, k_121, k_126, k_200, k_999, k_1000, k_3000, k_9999, k_65537, k_1000000, k_999999999, k_500, n_mul, n_add, n_sub, n_div]; first | rfl | (congr 1; omega)
      have e1 : nI q * 3 + nI c = nI (3 * q + c) := by simp (disch := omega) only [k_0, k_1, k_2, k_3, k_4, k_5, k_6, k_7, k_8, k_9, k_10, k_15, k_16, k_18, k_20, k_26, k_27, k_31, k_33, k_46, k_48, k_49, k_51, k_53, k_57, k_60, k_61, k_63, k_64, k_65, k_70, k_71, k_74, k_75, k_80, k_81, k_82, k_83, k_84, k_85, k_98, k_99, k_100, k_102, k_114, k_115, k_119, k_121, k_126, k_200, k_999, k_1000, k_3000, k_9999, k_65537, k_1000000, k_999999999, k_500, n_mul, n_add, n_sub, n_div]; first | rfl | (congr 1; omega)
      have b1 := hf (3 * l + c)
      have b2 := hf (3 * q + c)
      rw [e0, e1, aI_rd he (show 3 * l + c < 18 by omega), aI_rd he (show 3 * q + c < 18 by omega)]
      refine br_f (nI_ge hc (by decide)) ⟨vp_in_nI (by omega) (by decide), vp_in_nI (by omega) (by decide), ?_⟩
      refine pk_eq (f (3 * l + c)) (f (3 * q + c)) (fun w => nm_r (nI_1 c) (ih (fun k hk => ?_))) (fun w => h0 (fun w2 => ?_))
      · rcases Nat.lt_or_ge k c with w2 | w2
        · exact ha k w2
        · have : k = c := by omega
          subst this; exact w
      · rcases (show c = 0 ∨ c = 1 ∨ c = 2 by omega) with rfl | rfl | rfl
        · exact w w2.1
        · exact w w2.2.1
        · exact w w2.2.2
  obtain ⟨n, hn⟩ := key 0 (by decide)
  exact ⟨n, hn (fun k hk => absurd hk (Nat.not_lt_zero k))⟩
set_option maxHeartbeats 200000 in
theorem pX6_apart {g : Gr} {co : Co} {e : Ec} {S : Sta} {D : Day} {p1 p2 p3 : Int32} {Q : Int32 → Gr → Co → Ec → Prop} (hR : RG g S D) (hS : WS S) (hD : WD D) (h : ∀ co' e', Q (apartA S D p1 p2 p3) g co' e') : wpX6_apart g co e p1 p2 p3 Q := by
  unfold apartA at h
  unfold wpX6_apart
  refine ck2X6_isSet (fun c1 => ?_) (fun c1 => ?_)
  · rw [if_pos c1] at h
    refine ck2X6_isAhead (fun c2 => ?_) (fun c2 => ?_)
    · rw [if_pos c2] at h
      obtain ⟨set, hset, rfl⟩ := inR_nI (n := 63) (by decide) c1
      obtain ⟨d, hd, rfl⟩ := inR_nI (n := 60) (by decide) c2
      rw [nI_clamp (show set < 2 ^ 31 by omega), nI_clamp (show d < 2 ^ 31 by omega)] at h
      refine pX6_fillEchoes hR hS hD hd (fun co1 e1 he => ?_)
      let P := apP (zoff S) (zkp D) (zds S) set d
      have inner : ∀ l, l < 6 → ∀ n0, ∀ n c, n ≤ 5 - l → c + n ≤ 30 → (match apIn P p3 l n c with | (some r, _) => Q (nI r) g co1 e1 | (none, c') => wpX6_apart_L30 Q n0 g co1 e1 (nI set) p3 (nI c') (nI (l + 1))) → wpX6_apart_L43 Q (wpX6_apart_L30 Q n0) (n + 1) g co1 e1 (nI set) p3 (nI c) (nI l) (nI (6 - n)) := by
        intro l hl n0 n
        induction n with
        | zero =>
          intro c _ _ hm
          show wpX6_apart_H43 Q _ _ _ _ _ _ _ _ _ _
          unfold wpX6_apart_H43
          exact br_t (nI_le (by decide) (by decide)) (nm_r (nI_1 l) hm)
        | succ n ih =>
          intro c hn hc hm
          show wpX6_apart_H43 Q _ _ _ _ _ _ _ _ _ _
          unfold wpX6_apart_H43
          have e6 : 6 - (n + 1) = 5 - n := by omega
          rw [e6]
          have next : ∀ c', c' + n ≤ 30 → (match apIn P p3 l n c' with | (some r, _) => Q (nI r) g co1 e1 | (none, c') => wpX6_apart_L30 Q n0 g co1 e1 (nI set) p3 (nI c') (nI (l + 1))) → wpX6_apart_B97 Q (wpX6_apart_L30 Q n0) (wpX6_apart_L43 Q (wpX6_apart_L30 Q n0) (n + 1)) g co1 e1 (nI set) p3 (nI c') (nI l) (nI (5 - n)) := by
            intro c' hc' hm'
            unfold wpX6_apart_B97
            have e7 : nI (5 - n) + 1 = nI (6 - n) := by rw [nI_1]; congr 1; omega
            exact nm_r e7 (ih c' (by omega) hc' hm')
          have eI : apIn P p3 l (n + 1) c = if P l (5 - n) then (if nI c = p3 then (some (10 * l + (5 - n)), c) else apIn P p3 l n (c + 1)) else apIn P p3 l n c := rfl
          rw [eI] at hm
          refine br_f (nI_ge (a := 5 - n) (b := 6) (by omega) (by decide)) ?_
          refine pX6_has (by omega) (by omega) (fun q1 => br_f one_ne ?_) (fun q1 => br_t rfl ?_)
          · refine pX6_has (by omega) (by omega) (fun q2 => br_f one_ne ?_) (fun q2 => br_t rfl ?_)
            · refine pX6_echoAlike he (fun j => ecA_le _ _ _ _) hl (by omega) (fun q3 => br_f one_ne ?_) (fun q3 => br_t rfl ?_)
              · have eP : P l (5 - n) = true := by
                  show (decide _ && decide _ && decide _) = true
                  rw [decide_eq_true q1, decide_eq_true q2, decide_eq_true q3]; rfl
                rw [if_pos eP] at hm
                refine bn_c (fun q4 => ?_) (fun q4 => ?_)
                · rw [if_neg q4] at hm
                  exact nm_r (nI_1 c) (next (c + 1) (by omega) hm)
                · rw [if_pos q4] at hm
                  have e8 : 10 * nI l + nI (5 - n) = nI (10 * l + (5 - n)) := by simp (disch := omega) only [k_0, k_1, k_2, k_3, k_4, k_5, k_6, k_7, k_8, k_9, k_10, k_15, k_16, k_18, k_20, k_26, k_27, k_31, k_33, k_46, k_48, k_49, k_51, k_53, k_57, k_60, k_61, k_63, k_64, k_65, k_70, k_71, k_74, k_75, k_80, k_81, k_82, k_83, k_84, k_85, k_98, k_99, k_100, k_102, k_114, k_115, k_119, k_121, k_126, k_200, k_999, k_1000, k_3000, k_9999, k_65537, k_1000000, k_999999999, k_500, n_mul, n_add, n_sub, n_div]
                  rw [e8]; exact hm
              · have eP : ¬ P l (5 - n) = true := by
                  show ¬ (decide _ && decide _ && decide _) = true
                  rw [decide_eq_true q1, decide_eq_true q2, decide_eq_false q3]; decide
                rw [if_neg eP] at hm
                exact next c (by omega) hm
            · have eP : ¬ P l (5 - n) = true := by
                show ¬ (decide _ && decide _ && decide _) = true
                rw [decide_eq_true q1, decide_eq_false q2]; simp
              rw [if_neg eP] at hm
              exact next c (by omega) hm
          · have eP : ¬ P l (5 - n) = true := by
              show ¬ (decide _ && decide _ && decide _) = true
              rw [decide_eq_false q1]; simp
            rw [if_neg eP] at hm
            exact next c (by omega) hm
      have outer : ∀ n c, n ≤ 6 → c ≤ (6 - n) * 5 → (match apOut P p3 n c with | (some r, _) => Q (nI r) g co1 e1 | (none, c') => Q (if p3 = -1 then nI c' else -6) g co1 e1) → wpX6_apart_L30 Q (n + 1) g co1 e1 (nI set) p3 (nI c) (nI (6 - n)) := by
        intro n
        induction n with
        | zero =>
          intro c _ _ hm
          show wpX6_apart_H30 Q _ _ _ _ _ _ _ _
          unfold wpX6_apart_H30
          refine br_t (nI_le (by decide) (by decide)) (bn_c (fun q => ?_) (fun q => ?_))
          · have hm2 : Q (if p3 = -1 then nI c else -6) g co1 e1 := hm
            rw [if_neg q] at hm2; exact hm2
          · have hm2 : Q (if p3 = -1 then nI c else -6) g co1 e1 := hm
            rw [if_pos q] at hm2; exact hm2
        | succ n ih =>
          intro c hn hc hm
          show wpX6_apart_H30 Q _ _ _ _ _ _ _ _
          unfold wpX6_apart_H30
          have e6 : 6 - (n + 1) = 5 - n := by omega
          rw [e6]
          refine br_f (nI_ge (a := 5 - n) (b := 6) (by omega) (by decide)) ?_
          have e7 : nI (5 - n) + 1 = nI (6 - n) := by rw [nI_1]; congr 1; omega
          refine nm_r e7 ⟨n + 1, inner (5 - n) (by omega) (n + 1) n c (by omega) (by omega) ?_⟩
          have hl := apIn_le (P := P) (i := p3) (l := 5 - n) n c
          have eO : apOut P p3 (n + 1) c = match apIn P p3 (5 - n) n c with | (some r, c') => (some r, c') | (none, c') => apOut P p3 n c' := rfl
          rw [eO] at hm
          have e8 : 5 - n + 1 = 6 - n := by omega
          rw [e8]
          revert hm hl
          rcases apIn P p3 (5 - n) n c with ⟨o, c'⟩
          cases o with
          | some r => intro hm hl; exact hm
          | none => intro hm hl; exact ih c' (by omega) (by have : c' ≤ c + n := hl; omega) hm
      refine ⟨7, outer 6 0 (by decide) (by decide) ?_⟩
      have h2 := h co1 e1
      unfold apRes at h2
      revert h2
      show Q (match apOut P p3 6 0 with | (some r, _) => nI r | (none, c) => if p3 = -1 then nI c else -6) g co1 e1 → _
      rcases apOut P p3 6 0 with ⟨o, c'⟩
      cases o with
      | some r => intro hm; exact hm
      | none => intro hm; exact hm
    · rw [if_neg c2] at h; exact h co e
  · rw [if_neg c1] at h; exact h co e
set_option maxHeartbeats 200000 in
theorem pX7_apart {m : Mo} {S : Sta} {D : Day} {sg : Nat → Nat} {cnt : Nat} {I J : Nat → Int32} {p1 p2 p3 : Int32} {Q : Int32 → Mo → Prop} (hR : RMo m S D sg cnt I J) (hS : WS S) (hD : WD D) (hy : zdy D ≤ 99) (h : ∀ m', FX m m' → Q (apartA S D p1 p2 p3) m') : wpX7_apart m p1 p2 p3 Q := by
  unfold apartA at h
  unfold wpX7_apart
  refine ck2X7_in (fun c1 => ?_) (fun c1 => ?_)
  · rw [if_pos c1] at h
    refine ck2X7_isDay (fun c2 => ?_) (fun c2 => ?_)
    · rw [if_pos c2] at h
      obtain ⟨set, hset, rfl⟩ := inR_nI (n := 63) (by decide) c1
      obtain ⟨d, hd, rfl⟩ := inR_nI (n := 60) (by decide) c2
      rw [nI_clamp (show set < 2 ^ 31 by omega), nI_clamp (show d < 2 ^ 31 by omega)] at h
      let f : Nat → Nat := fun j => ecA (zoff S) (zkp D) (zds S j) d
      have hf : ∀ j, f j ≤ 999 := fun j => ecA_le _ _ _ _
      let P := apP (zoff S) (zkp D) (zds S) set d
      -- the search, once the echoes stand
      have search : ∀ m1, FX m m1 → aI 18 (Mo_echo m1) f → ∃ n, wpX7_apart_L92 Q n m1 (nI set) p3 (nI 0) (nI 0) := by
        intro m1 hF he
        have inner : ∀ l, l < 6 → ∀ n0, ∀ n c, n ≤ 5 - l → c + n ≤ 30 → (match apIn P p3 l n c with | (some r, _) => Q (nI r) m1 | (none, c') => wpX7_apart_L92 Q n0 m1 (nI set) p3 (nI c') (nI (l + 1))) → wpX7_apart_L105 Q (wpX7_apart_L92 Q n0) (n + 1) m1 (nI set) p3 (nI c) (nI l) (nI (6 - n)) := by
          intro l hl n0 n
          induction n with
          | zero =>
            intro c _ _ hm
            show wpX7_apart_H105 Q _ _ _ _ _ _ _ _
            unfold wpX7_apart_H105
            exact br_t (nI_le (by decide) (by decide)) (nm_r (nI_1 l) hm)
          | succ n ih =>
            intro c hn hc hm
            show wpX7_apart_H105 Q _ _ _ _ _ _ _ _
            unfold wpX7_apart_H105
            have e6 : 6 - (n + 1) = 5 - n := by omega
            rw [e6]
            have next : ∀ c', c' + n ≤ 30 → (match apIn P p3 l n c' with | (some r, _) => Q (nI r) m1 | (none, c') => wpX7_apart_L92 Q n0 m1 (nI set) p3 (nI c') (nI (l + 1))) → wpX7_apart_B214 Q (wpX7_apart_L92 Q n0) (wpX7_apart_L105 Q (wpX7_apart_L92 Q n0) (n + 1)) m1 (nI set) p3 (nI c') (nI l) (nI (5 - n)) := by
              intro c' hc' hm'
              unfold wpX7_apart_B214
              have e7 : nI (5 - n) + 1 = nI (6 - n) := by rw [nI_1]; congr 1; omega
              exact nm_r e7 (ih c' (by omega) hc' hm')
            have eI : apIn P p3 l (n + 1) c = if P l (5 - n) then (if nI c = p3 then (some (10 * l + (5 - n)), c) else apIn P p3 l n (c + 1)) else apIn P p3 l n c := rfl
            rw [eI] at hm
            -- the three colours compared, from s0
            have cmp : ∀ b : Bool, (decide (hasN set l) && decide (hasN set (5 - n))) = b → ∃ n1, wpX7_apart_L140 Q (wpX7_apart_L92 Q n0) (wpX7_apart_L105 Q (wpX7_apart_L92 Q n0) (n + 1)) n1 m1 (nI set) p3 (nI c) (nI l) (nI (5 - n)) (nI (if b then 1 else 0)) (nI 0) := by
              intro b hb
              let B : Nat → Bool := fun k => b && decide (∀ j, j < k → f (3 * l + j) = f (3 * (5 - n) + j))
              have key : ∀ k, k ≤ 3 → ∃ n1, wpX7_apart_L140 Q (wpX7_apart_L92 Q n0) (wpX7_apart_L105 Q (wpX7_apart_L92 Q n0) (n + 1)) n1 m1 (nI set) p3 (nI c) (nI l) (nI (5 - n)) (nI (if B k then 1 else 0)) (nI k) := by
                refine up_loop 3 (fun n1 => ?_) (fun n1 k hk ih1 => ?_)
                · show wpX7_apart_H140 Q _ _ _ _ _ _ _ _ _ _ _
                  unfold wpX7_apart_H140
                  have eB : P l (5 - n) = B 3 := by
                    show (decide _ && decide _ && decide _) = (b && decide _)
                    rw [hb]
                    congr 1
                    refine decide_eq_decide.mpr ⟨fun w j hj => ?_, fun w => ⟨w 0 (by decide), w 1 (by decide), w 2 (by decide)⟩⟩
                    rcases (show j = 0 ∨ j = 1 ∨ j = 2 by omega) with rfl | rfl | rfl
                    · exact w.1
                    · exact w.2.1
                    · exact w.2.2
                  rw [eB] at hm
                  refine br_t (nI_le (by decide) (by decide)) ?_
                  cases hB : B 3 with
                  | false =>
                    rw [hB] at hm
                    exact br_t rfl (next c (by omega) hm)
                  | true =>
                    rw [hB, if_pos rfl] at hm
                    refine br_f (show ¬ nI 1 = 0 by decide) (bn_c (fun q4 => ?_) (fun q4 => ?_))
                    · rw [if_neg q4] at hm
                      exact nm_r (nI_1 c) (next (c + 1) (by omega) hm)
                    · rw [if_pos q4] at hm
                      have e8 : 10 * nI l + nI (5 - n) = nI (10 * l + (5 - n)) := by simp (disch := omega) only [k_0, k_1, k_2, k_3, k_4, k_5, k_6, k_7, k_8, k_9, k_10, k_15, k_16, k_18, k_20, k_26, k_27, k_31, k_33, k_46, k_48, k_49, k_51, k_53, k_57, k_60, k_61, k_63, k_64, k_65, k_70, k_71, k_74, k_75, k_80, k_81, k_82, k_83, k_84, k_85, k_98, k_99, k_100, k_102, k_114, k_115, k_119, k_121, k_126, k_200, k_999, k_1000, k_3000, k_9999, k_65537, k_1000000, k_999999999, k_500, n_mul, n_add, n_sub, n_div]
                      rw [e8]; exact hm
                · show wpX7_apart_H140 Q _ _ _ _ _ _ _ _ _ _ _
                  unfold wpX7_apart_H140
                  have e0 : 3 * nI l + nI k = nI (3 * l + k) := by simp (disch := omega) only [k_0, k_1, k_2, k_3, k_4, k_5, k_6, k_7, k_8, k_9, k_10, k_15, k_16, k_18, k_20, k_26, k_27, k_31, k_33, k_46, k_48, k_49, k_51, k_53, k_57, k_60, k_61, k_63, k_64, k_65, k_70, k_71, k_74, k_75, k_80, k_81, k_82, k_83, k_84, k_85, k_98, k_99, k_100, k_102, k_114, k_115, k_119, k_121, k_126, k_200, k_999, k_1000, k_3000, k_9999, k_65537, k_1000000, k_999999999, k_500, n_mul, n_add, n_sub, n_div]
                  have e1 : 3 * nI (5 - n) + nI k = nI (3 * (5 - n) + k) := by simp (disch := omega) only [k_0, k_1, k_2, k_3, k_4, k_5, k_6, k_7, k_8, k_9, k_10, k_15, k_16, k_18, k_20, k_26, k_27, k_31, k_33, k_46, k_48, k_49, k_51, k_53, k_57, k_60, k_61, k_63, k_64, k_65, k_70, k_71, k_74, k_75, k_80, k_81, k_82, k_83, k_84, k_85, k_98, k_99, k_100, k_102, k_114, k_115, k_119, k_121, k_126, k_200, k_999, k_1000, k_3000, k_9999, k_65537, k_1000000, k_999999999, k_500, n_mul, n_add, n_sub, n_div]
                  have b1 := hf (3 * l + k)
                  have b2 := hf (3 * (5 - n) + k)
                  rw [e0, e1, aI_rd he (show 3 * l + k < 18 by omega), aI_rd he (show 3 * (5 - n) + k < 18 by omega)]
                  refine br_f (nI_ge hk (by decide)) ?_
                  have fin : ∀ b2 : Bool, B (k + 1) = b2 → wpX7_apart_B183 Q (wpX7_apart_L92 Q n0) (wpX7_apart_L105 Q (wpX7_apart_L92 Q n0) (n + 1)) (wpX7_apart_L140 Q (wpX7_apart_L92 Q n0) (wpX7_apart_L105 Q (wpX7_apart_L92 Q n0) (n + 1)) n1) m1 (nI set) p3 (nI c) (nI l) (nI (5 - n)) (nI k) (nI (if b2 then 1 else 0)) := by
                    intro b2 hb2
                    unfold wpX7_apart_B183
                    rw [← hb2]
                    exact nm_r (nI_1 k) ih1
                  cases hB : B k with
                  | false =>
                    refine br_t rfl ?_
                    unfold wpX7_apart_B182
                    refine fin false ?_
                    have h1 : (b && decide (∀ j, j < k → f (3 * l + j) = f (3 * (5 - n) + j))) = false := hB
                    show (b && decide (∀ j, j < k + 1 → f (3 * l + j) = f (3 * (5 - n) + j))) = false
                    rcases Bool.and_eq_false_iff.mp h1 with w | w
                    · rw [w]; rfl
                    · rw [decide_eq_false (fun w2 => of_decide_eq_false w (fun j hj => w2 j (by omega))), Bool.and_false]
                  | true =>
                    have h1 : (b && decide (∀ j, j < k → f (3 * l + j) = f (3 * (5 - n) + j))) = true := hB
                    obtain ⟨w1, w2⟩ := Bool.and_eq_true_iff.mp h1
                    have w3 := of_decide_eq_true w2
                    refine br_f (show ¬ nI 1 = 0 by decide) ⟨vp_in_nI (by omega) (by decide), vp_in_nI (by omega) (by decide), ?_⟩
                    refine pk_ne (f (3 * l + k)) (f (3 * (5 - n) + k)) (fun w => ?_) (fun w => ?_)
                    · unfold wpX7_apart_B182
                      refine fin false ?_
                      show (b && decide (∀ j, j < k + 1 → f (3 * l + j) = f (3 * (5 - n) + j))) = false
                      rw [decide_eq_false (fun w4 => w (w4 k (by omega))), Bool.and_false]
                    · refine fin true ?_
                      show (b && decide (∀ j, j < k + 1 → f (3 * l + j) = f (3 * (5 - n) + j))) = true
                      rw [w1, decide_eq_true (fun j hj => ?_)]
                      · rfl
                      · rcases Nat.lt_or_ge j k with w4 | w4
                        · exact w3 j w4
                        · have : j = k := by omega
                          subst this; exact w
              have k0 := key 0 (by decide)
              have eB0 : B 0 = b := by
                show (b && decide _) = b
                rw [decide_eq_true (fun j hj => absurd hj (Nat.not_lt_zero j)), Bool.and_true]
              rw [eB0] at k0
              exact k0
            refine br_f (nI_ge (a := 5 - n) (b := 6) (by omega) (by decide)) ?_
            refine pX7_has (by omega) (by omega) (fun q1 => br_f one_ne ?_) (fun q1 => br_t rfl ?_)
            · refine pX7_has (by omega) (by omega) (fun q2 => br_f one_ne ?_) (fun q2 => br_t rfl ?_)
              · exact cmp true (by rw [decide_eq_true q1, decide_eq_true q2]; rfl)
              · exact cmp false (by rw [decide_eq_false q2, Bool.and_false])
            · exact cmp false (by rw [decide_eq_false q1, Bool.false_and])
        have outer : ∀ n c, n ≤ 6 → c ≤ (6 - n) * 5 → (match apOut P p3 n c with | (some r, _) => Q (nI r) m1 | (none, c') => Q (if p3 = -1 then nI c' else -6) m1) → wpX7_apart_L92 Q (n + 1) m1 (nI set) p3 (nI c) (nI (6 - n)) := by
          intro n
          induction n with
          | zero =>
            intro c _ _ hm
            show wpX7_apart_H92 Q _ _ _ _ _ _
            unfold wpX7_apart_H92
            refine br_t (nI_le (by decide) (by decide)) (bn_c (fun q => ?_) (fun q => ?_))
            · have hm2 : Q (if p3 = -1 then nI c else -6) m1 := hm
              rw [if_neg q] at hm2; exact hm2
            · have hm2 : Q (if p3 = -1 then nI c else -6) m1 := hm
              rw [if_pos q] at hm2; exact hm2
          | succ n ih =>
            intro c hn hc hm
            show wpX7_apart_H92 Q _ _ _ _ _ _
            unfold wpX7_apart_H92
            have e6 : 6 - (n + 1) = 5 - n := by omega
            rw [e6]
            refine br_f (nI_ge (a := 5 - n) (b := 6) (by omega) (by decide)) ?_
            have e7 : nI (5 - n) + 1 = nI (6 - n) := by rw [nI_1]; congr 1; omega
            refine nm_r e7 ⟨n + 1, inner (5 - n) (by omega) (n + 1) n c (by omega) (by omega) ?_⟩
            have hl := apIn_le (P := P) (i := p3) (l := 5 - n) n c
            have eO : apOut P p3 (n + 1) c = match apIn P p3 (5 - n) n c with | (some r, c') => (some r, c') | (none, c') => apOut P p3 n c' := rfl
            rw [eO] at hm
            have e8 : 5 - n + 1 = 6 - n := by omega
            rw [e8]
            revert hm hl
            rcases apIn P p3 (5 - n) n c with ⟨o, c'⟩
            cases o with
            | some r => intro hm hl; exact hm
            | none => intro hm hl; exact ih c' (by omega) (by have : c' ≤ c + n := hl; omega) hm
        refine ⟨7, outer 6 0 (by decide) (by decide) ?_⟩
        have h2 := h m1 hF
        unfold apRes at h2
        revert h2
        show Q (match apOut P p3 6 0 with | (some r, _) => nI r | (none, c) => if p3 = -1 then nI c else -6) m1 → _
        rcases apOut P p3 6 0 with ⟨o, c'⟩
        cases o with
        | some r => intro hm; exact hm
        | none => intro hm; exact hm
      have key : ∀ k, k ≤ 6 → ∃ n, ∀ m1 : Mo, FX m m1 → aI (3 * k) (Mo_echo m1) f → wpX7_apart_L25 Q n m1 (nI set) (nI d) p3 (nI k) := by
        refine up_loop 6 (fun n => ?_) (fun n k hk ih => ?_)
        · intro m1 hF he
          show wpX7_apart_H25 Q _ _ _ _ _ _
          unfold wpX7_apart_H25
          exact br_t (nI_le (by decide) (by decide)) (search m1 hF he)
        · intro m1 hF he
          show wpX7_apart_H25 Q _ _ _ _ _ _
          unfold wpX7_apart_H25
          refine br_f (nI_ge hk (by decide)) ?_
          have hRm := hF.R hR
          have hE := emptyA_WD hD
          have hW1 : WD (wearA (zds S) k (emptyA D)) := wearA_WD hS.2.1 (fun j => Nat.zero_le _) hE
          refine pX7_empty hRm.2.1 (fun m2 hF2 hN2 => ?_)
          refine pX7_wear (hF2.S hRm.1) hN2 hk (fun m3 hF3 hN3 => ?_)
          have hFa := hF2.trans hF3
          refine pX7_waits (hFa.S hRm.1) hN3 hS hW1 (by omega) (show zdy D + d ≤ 1000 by omega) (fun m4 hF4 hN4 => ?_)
          have hFb := hFa.trans hF4
          have he4 : Mo_echo m4 = Mo_echo m1 := by
            obtain ⟨x1, x2, x3, x4, x5, x6, x7, rfl⟩ := hFb
            rfl
          have es : ∀ c, seeA (zoff S) (waitA (zoff S) d (wearA (zds S) k (emptyA D))) c 0 = f (3 * k + c) := by
            intro c
            refine see_empty hS.1 d ?_ rfl
            show 0 + zds S (3 * k + c) = _
            omega
          have key2 : ∀ c, c ≤ 3 → ∃ n2, ∀ m5 : Mo, FX m4 m5 → RN m5 (waitA (zoff S) d (wearA (zds S) k (emptyA D))) → aI (3 * k + c) (Mo_echo m5) f → wpX7_apart_L50 Q (wpX7_apart_L25 Q n) n2 m5 (nI set) (nI d) p3 (nI k) (nI c) := by
            refine up_loop 3 (fun n2 => ?_) (fun n2 c hc ih2 => ?_)
            · intro m5 hF5 hN5 he5
              show wpX7_apart_H50 Q _ _ _ _ _ _ _ _
              unfold wpX7_apart_H50
              refine br_t (nI_le (by decide) (by decide)) (nm_r (nI_1 k) (ih m5 ((hF.trans hFb.X).trans hF5) ?_))
              rw [Nat.mul_add]; exact he5
            · intro m5 hF5 hN5 he5
              show wpX7_apart_H50 Q _ _ _ _ _ _ _ _
              unfold wpX7_apart_H50
              refine br_f (nI_ge hc (by decide)) ?_
              have hR5 := hF5.R (hFb.X.R hRm)
              refine pX7_see hR5.1 hN5 hS (waitA_WD hW1 d (show zdy D + d ≤ 1000 by omega)) hc ?_
              rw [es]
              have e0 : 3 * nI k + nI c = nI (3 * k + c) := by simp (disch := omega) only [k_0, k_1, k_2, k_3, k_4, k_5, k_6, k_7, k_8, k_9, k_10, k_15, k_16, k_18, k_20, k_26, k_27, k_31, k_33, k_46, k_48, k_49, k_51, k_53, k_57, k_60, k_61, k_63, k_64, k_65, k_70, k_71, k_74, k_75, k_80, k_81, k_82, k_83, k_84, k_85, k_98, k_99, k_100, k_102, k_114, k_115, k_119, k_121, k_126, k_200, k_999, k_1000, k_3000, k_9999, k_65537, k_1000000, k_999999999, k_500, n_mul, n_add, n_sub, n_div]
              rw [e0]
              refine ⟨vp_in_nI (by omega) (by decide), nm_r (nI_1 c) (ih2 _ (hF5.echo _) hN5 (fun j hj => ?_))⟩
              show upd (Mo_echo m5) (nI (3 * k + c)).toNatClampNeg _ j = _
              rw [nI_clamp (show 3 * k + c < 2 ^ 31 by omega)]
              unfold upd
              split
              · rename_i q; rw [q]
              · exact he5 j (by omega)
          obtain ⟨n2, hn2⟩ := key2 0 (by decide)
          exact ⟨n2, hn2 m4 FX.rf hN4 (by rw [he4]; exact he)⟩
      obtain ⟨n, hn⟩ := key 0 (by decide)
      exact ⟨n, hn m FX.rf (fun j hj => absurd hj (by omega))⟩
    · rw [if_neg c2] at h; exact h m FX.rf
  · rw [if_neg c1] at h; exact h m FX.rf
