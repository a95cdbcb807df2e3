/-! fogs: numbers -/
def wtN (t r : Nat) : Nat → Nat
  | 0 => 1
  | i + 1 => wtN t r i * (if hasN r i then t else 10 - t)
def bcN (r : Nat) : Nat → Nat
  | 0 => 0
  | i + 1 => bcN r i + (if hasN r i then 1 else 0)
set_option maxHeartbeats 200000 in
theorem bcN_le (r : Nat) : ∀ i, bcN r i ≤ i
  | 0 => Nat.le_refl _
  | i + 1 => by
    have ih := bcN_le r i
    show bcN r i + (if hasN r i then 1 else 0) ≤ i + 1
    split <;> omega
set_option maxHeartbeats 200000 in
theorem wtN_bc {t r : Nat} : ∀ i, wtN t r i = t ^ bcN r i * (10 - t) ^ (i - bcN r i)
  | 0 => rfl
  | i + 1 => by
    have ih := wtN_bc (t := t) (r := r) i
    have hb := bcN_le r i
    show wtN t r i * (if hasN r i then t else 10 - t) = t ^ (bcN r i + (if hasN r i then 1 else 0)) * (10 - t) ^ (i + 1 - (bcN r i + (if hasN r i then 1 else 0)))
    rw [ih]
    by_cases q : hasN r i
    · rw [if_pos q, if_pos q]
      have e : i + 1 - (bcN r i + 1) = i - bcN r i := by omega
      rw [e, Nat.pow_succ, Nat.mul_right_comm]
    · rw [if_neg q, if_neg q, Nat.add_zero]
      have e : i + 1 - bcN r i = (i - bcN r i) + 1 := by omega
      rw [e, Nat.pow_succ, Nat.mul_assoc]
set_option maxHeartbeats 200000 in
theorem wtN_le {t r : Nat} (ht : t ≤ 10) : ∀ i, wtN t r i ≤ 10 ^ i
  | 0 => Nat.le_refl _
  | i + 1 => by
    show wtN t r i * (if hasN r i then t else 10 - t) ≤ 10 ^ (i + 1)
    rw [Nat.pow_succ]
    refine Nat.mul_le_mul (wtN_le ht i) ?_
    split <;> omega
set_option maxHeartbeats 200000 in
theorem p10_le : ∀ d, d < 9 → 10 ^ d ≤ 100000000 := by decide
set_option maxHeartbeats 200000 in
theorem p10_pos (d : Nat) : 0 < 10 ^ d := Nat.pow_pos (by decide)
set_option maxHeartbeats 200000 in
theorem p2_le : ∀ d, d < 9 → 2 ^ d ≤ 256 := by decide
set_option maxHeartbeats 200000 in
theorem shl_d : ∀ d, d < 9 → (1 : Int32) <<< (nI d &&& 31) = nI (2 ^ d) := by decide
set_option maxHeartbeats 200000 in
theorem bc_256 : ∀ s, s < 256 → ((((((nI s - (((nI s).toUInt32 >>> ((1 : Int32).toUInt32 &&& Int32.toUInt32 31)).toInt32 &&& 1431655765)) &&& 858993459) + (((nI s - (((nI s).toUInt32 >>> ((1 : Int32).toUInt32 &&& Int32.toUInt32 31)).toInt32 &&& 1431655765)).toUInt32 >>> ((2 : Int32).toUInt32 &&& Int32.toUInt32 31)).toInt32 &&& 858993459)) + ((((nI s - (((nI s).toUInt32 >>> ((1 : Int32).toUInt32 &&& Int32.toUInt32 31)).toInt32 &&& 1431655765)) &&& 858993459) + (((nI s - (((nI s).toUInt32 >>> ((1 : Int32).toUInt32 &&& Int32.toUInt32 31)).toInt32 &&& 1431655765)).toUInt32 >>> ((2 : Int32).toUInt32 &&& Int32.toUInt32 31)).toInt32 &&& 858993459)).toUInt32 >>> ((4 : Int32).toUInt32 &&& Int32.toUInt32 31)).toInt32) &&& 252645135) = nI (bcN s 8)) := by decide +kernel
set_option maxHeartbeats 200000 in
theorem bc_d : ∀ d, d < 9 → ∀ r, r < 256 → r < 2 ^ d → bcN r 8 = bcN r d := by decide +kernel
set_option maxHeartbeats 200000 in
theorem pJ6_bc8 {s : Nat} {Q : Int32 → Prop} (hs : s < 256) (h : Q (nI (bcN s 8))) : wpJ6_bitCount_0f7a4 (nI s) Q := by
  unfold wpJ6_bitCount_0f7a4
  refine nm_e (nm_e (nm_r (bc_256 s hs) (nm_e (nm_e ?_))))
  rw [bc_tail (bcN s 8) (by have := bcN_le s 8; omega)]
  exact h
set_option maxHeartbeats 200000 in
theorem pX6_power {b e : Nat} {Q : Int64 → Prop} (hb : b ≤ 10) (he : e ≤ 8) (h : Q (lN (b ^ e))) : wpX6_power (nI b) (nI e) Q := by
  unfold wpX6_power
  have key : ∀ i, i ≤ e → ∃ n, wpX6_power_L5 Q n (nI b) (nI e) (lN (b ^ i)) (nI i) := by
    refine up_loop e (fun n => ?_) (fun n i hi ih => ?_)
    · show wpX6_power_H5 Q _ _ _ _ _
      unfold wpX6_power_H5
      exact br_t (nI_le (Nat.le_refl _) (by omega)) h
    · show wpX6_power_H5 Q _ _ _ _ _
      unfold wpX6_power_H5
      refine br_f (nI_ge hi (by omega)) (nm_r (e' := lN (b ^ (i + 1))) ?_ (nm_r (nI_1 i) ih))
      rw [nI_l (show b < 2 ^ 31 by omega), lN_mul, Nat.pow_succ]
  exact key 0 (Nat.zero_le _)
set_option maxHeartbeats 200000 in
theorem pX6_fogWeight {r d t : Nat} {Q : Int64 → Prop} (hd : d ≤ 8) (hr : r < 2 ^ d) (ht : t ≤ 10) (h : Q (lN (wtN t r d))) : wpX6_fogWeight (nI r) (nI d) (nI t) Q := by
  have h2 := p2_le d (by omega)
  have hb := bcN_le r d
  unfold wpX6_fogWeight
  refine pJ6_bc8 (by omega) ?_
  rw [bc_d d (by omega) r (by omega) hr]
  refine pX6_power ht (by omega) ?_
  have e1 : (10 : Int32) - nI t = nI (10 - t) := n_sub (a := 10) ht
  have e2 : nI d - nI (bcN r d) = nI (d - bcN r d) := n_sub hb
  rw [e1, e2]
  refine pX6_power (by omega) (by omega) ?_
  rw [lN_mul, ← wtN_bc]
  exact h
set_option maxHeartbeats 200000 in
theorem eu_g {a b : Nat} : Nat.gcd a b = Nat.gcd b (a % b) := by
  rw [Nat.gcd_comm a b, Nat.gcd_rec, Nat.gcd_comm]
set_option maxHeartbeats 200000 in
theorem eu_h {b r k : Nat} (hr : r < b) (h0 : ¬ r = 0) (hb : b < 2 ^ (k + 1)) : b % r < 2 ^ k := by
  have h1 : b % r < r := Nat.mod_lt _ (by omega)
  have h2 := Nat.div_add_mod b r
  have h3 : 1 ≤ b / r := (Nat.one_le_div_iff (by omega)).mpr (by omega)
  have h4 : r * 1 ≤ r * (b / r) := Nat.mul_le_mul_left r h3
  rw [Nat.pow_succ] at hb
  omega
set_option maxHeartbeats 200000 in
theorem l0_iff {b : Nat} (hb : b < 4611686018427387904) : lN b = 0 ↔ b = 0 := pk_lEQ (b := 0) (by omega) (by decide)
set_option maxHeartbeats 200000 in
theorem st6 {Q : Int64 → Prop} {n a b s : Nat} (ha : a < 4611686018427387904) (hb : b < 4611686018427387904) (hs : s < 200) (h0 : b = 0 → Q (lN a)) (h1 : ¬ b = 0 → wpX6_commonDivisor_L9 Q n (lN b) (lN (a % b)) (nI (s + 1))) : wpX6_commonDivisor_L9 Q (n + 1) (lN a) (lN b) (nI s) := by
  show wpX6_commonDivisor_H9 Q _ _ _ _
  unfold wpX6_commonDivisor_H9
  rw [lg_cmp_eq, l0_iff hb]
  refine br_f (nI_ge hs (by decide)) ⟨h0, fun q => ⟨q, nm_r (pk_lRem (by omega) (by omega) (by omega)) (nm_r (nI_1 s) (h1 q))⟩⟩
set_option maxHeartbeats 200000 in
theorem pX6_gcdL {Q : Int64 → Prop} : ∀ k a b s, a < 4611686018427387904 → b < 4611686018427387904 → b < 2 ^ k → s + 2 * k ≤ 199 → Q (lN (Nat.gcd a b)) → wpX6_commonDivisor_L9 Q (2 * k + 1) (lN a) (lN b) (nI s)
  | 0, a, b, s, ha, hb, hk, hs, h => by
    have b0 : b = 0 := by
      rw [Nat.pow_zero] at hk; omega
    subst b0
    rw [Nat.gcd_zero_right] at h
    exact st6 ha hb (by omega) (fun _ => h) (fun q => absurd rfl q)
  | k + 1, a, b, s, ha, hb, hk, hs, h => by
    show wpX6_commonDivisor_L9 Q (2 * k + 1 + 1 + 1) _ _ _
    refine st6 ha hb (by omega) (fun q => ?_) (fun q => ?_)
    · subst q
      rw [Nat.gcd_zero_right] at h
      exact h
    · have hr : a % b < b := Nat.mod_lt _ (by omega)
      rw [eu_g] at h
      refine st6 hb (by omega) (by omega) (fun q2 => ?_) (fun q2 => ?_)
      · rw [q2, Nat.gcd_zero_right] at h
        exact h
      · rw [eu_g] at h
        have h4 := eu_h hr q2 hk
        have h5 : b % (a % b) < a % b := Nat.mod_lt _ (by omega)
        exact pX6_gcdL k (a % b) (b % (a % b)) (s + 1 + 1) (by omega) (by omega) h4 (by omega) h
set_option maxHeartbeats 200000 in
theorem p27_lt {b : Nat} (h : b ≤ 100000000) : b < 2 ^ 27 := by
  have e : (2 : Nat) ^ 27 = 134217728 := by decide
  omega
set_option maxHeartbeats 200000 in
theorem pX6_commonDivisor {Q : Int64 → Prop} {a b : Nat} (ha : a < 4611686018427387904) (hb : b ≤ 100000000) (h : Q (lN (Nat.gcd a b))) : wpX6_commonDivisor (lN a) (lN b) Q := by
  unfold wpX6_commonDivisor
  exact ⟨_, pX6_gcdL 27 a b 0 ha (by omega) (p27_lt hb) (by decide) h⟩
/-! fogs: spec -/
def snN (S : Sta) (D : Day) (c d r : Nat) : Nat := hist (zoff S) (zkp D) (fogB r) (hzm (zoff S) D c 0) d 0
def tmN (S : Sta) (D : Day) (c d t v w r : Nat) : Nat := if w = 1 then wtN t r d * snN S D c d r else if v ≤ snN S D c d r then wtN t r d else 0
def smN (S : Sta) (D : Day) (c d t v w : Nat) : Nat → Nat
  | 0 => 0
  | r + 1 => smN S D c d t v w r + tmN S D c d t v w r
def foA (S : Sta) (D : Day) (c d t v w pt : Nat) : Int64 := if pt = 0 then lN (smN S D c d t v w (2 ^ d) / Nat.gcd (smN S D c d t v w (2 ^ d)) (10 ^ d)) else lN (10 ^ d / Nat.gcd (smN S D c d t v w (2 ^ d)) (10 ^ d))
def fogsA (S : Sta) (D : Day) (p1 p2 p3 p4 p5 p6 : Int32) : Int64 := if inR p1 0 2 ∧ inR p2 0 8 ∧ inR p3 0 10 ∧ inR p4 0 999 ∧ inR p5 0 1 ∧ inR p6 0 1 then foA S D p1.toNatClampNeg p2.toNatClampNeg p3.toNatClampNeg p4.toNatClampNeg p5.toNatClampNeg p6.toNatClampNeg else -1000000000000000002
set_option maxHeartbeats 200000 in
theorem snN_le {S : Sta} {D : Day} (hD : WD D) (c d r : Nat) : snN S D c d r ≤ 999 := hist_le (hzm_le hD c 0) d 0
set_option maxHeartbeats 200000 in
theorem tmN_le {S : Sta} {D : Day} {c d t v w r : Nat} (hD : WD D) (hd : d ≤ 8) (ht : t ≤ 10) : tmN S D c d t v w r ≤ 99900000000 := by
  have h1 := wtN_le (r := r) ht d
  have h2 := p10_le d (by omega)
  have h3 := snN_le (S := S) hD c d r
  have h4 : wtN t r d * snN S D c d r ≤ 100000000 * 999 := Nat.mul_le_mul (by omega) h3
  unfold tmN
  split
  · exact h4
  · split <;> omega
set_option maxHeartbeats 200000 in
theorem smN_le {S : Sta} {D : Day} {c d t v w : Nat} (hD : WD D) (hd : d ≤ 8) (ht : t ≤ 10) : ∀ r, smN S D c d t v w r ≤ 99900000000 * r
  | 0 => Nat.le_refl _
  | r + 1 => by
    have h1 := smN_le (c := c) (v := v) (w := w) (S := S) hD hd ht r
    have h2 := tmN_le (S := S) (c := c) (v := v) (w := w) (r := r) hD hd ht
    show smN S D c d t v w r + tmN S D c d t v w r ≤ _
    omega
set_option maxHeartbeats 200000 in
theorem hist_deep {off kp : Nat → Nat} {fg : Nat → Bool} {h0 : Nat → Nat} : ∀ (d k : Nat), hist off kp fg h0 d (d + k) = h0 k
  | 0, k => by rw [Nat.zero_add]; rfl
  | d + 1, k => by
    show (if d + 1 + k = 0 then (if fg d then 0 else cap (wsm off kp (hist off kp fg h0 d) 4)) else hist off kp fg h0 d (d + 1 + k - 1)) = _
    rw [if_neg (by omega)]
    have e : d + 1 + k - 1 = d + k := by omega
    rw [e]
    exact hist_deep d k
set_option maxHeartbeats 200000 in
theorem RC_back {co : Co} {off kp : Nat → Nat} {fg fg2 : Nat → Bool} {h0 : Nat → Nat} {d : Nat} (h : RC co off kp fg h0 d) : RC co off kp fg2 h0 0 := by
  intro j hj
  rw [h j (by omega)]
  show _ = nI (h0 (9 + 0 - j))
  have e : 9 + d - j = d + (9 + 0 - j) := by omega
  rw [e, hist_deep]
set_option maxHeartbeats 200000 in
theorem foA_fin {S : Sta} {D : Day} {c d t v w pt : Nat} (hD : WD D) (hd : d ≤ 8) (ht : t ≤ 10) : smN S D c d t v w (2 ^ d) < 4611686018427387904 ∧ 0 < Nat.gcd (smN S D c d t v w (2 ^ d)) (10 ^ d) ∧ Nat.gcd (smN S D c d t v w (2 ^ d)) (10 ^ d) ≤ 100000000 := by
  have h1 := smN_le (S := S) (c := c) (v := v) (w := w) hD hd ht (2 ^ d)
  have h2 := p2_le d (by omega)
  have h3 := p10_pos d
  have h4 := p10_le d (by omega)
  have h5 := Nat.gcd_le_right (smN S D c d t v w (2 ^ d)) h3
  exact ⟨by omega, Nat.gcd_pos_of_pos_right _ h3, by omega⟩
set_option maxHeartbeats 200000 in
theorem ld_nI {n : Nat} {x : Int64} (h : x = lN n) : x = lN n := h
/-! fogs: the program's side -/
set_option maxHeartbeats 200000 in
theorem pX6_fogsL {g : Gr} {S : Sta} {D : Day} {c d t v w pt : Nat} {Q : Int64 → Gr → Co → Prop} (hR : RG g S D) (hS : WS S) (hD : WD D) (hd : d ≤ 8) (ht : t ≤ 10) (hv : v ≤ 999) (hw : w ≤ 1) (hpt : pt ≤ 1) (h : ∀ co', Q (foA S D c d t v w pt) g co') : ∀ r, r ≤ 2 ^ d → ∃ n, ∀ vc : Co, RC vc (zoff S) (zkp D) (fogB r) (hzm (zoff S) D c 0) 0 → wpX6_fogs_L102 Q n g vc (nI d) (nI t) (nI v) (nI w) (nI pt) (lN (smN S D c d t v w r)) (nI r) := by
  have h2 := p2_le d (by omega)
  have h4 := p10_le d (by omega)
  have sh := shl_d d (by omega)
  refine up_loop (2 ^ d) (fun n => ?_) (fun n r hr ih => ?_)
  · intro vc hC
    obtain ⟨f1, f2, f3⟩ := foA_fin (S := S) (D := D) (c := c) (v := v) (w := w) (pt := pt) hD hd ht
    show wpX6_fogs_H102 Q _ _ _ _ _ _ _ _ _ _
    unfold wpX6_fogs_H102
    rw [sh]
    refine br_t (nI_le (Nat.le_refl _) (by omega)) (pX6_power (b := 10) (by decide) hd (pX6_commonDivisor f1 h4 ?_))
    have h' := h vc
    unfold foA at h'
    rw [lg_cmp_ge]
    have nz : ¬ lN (Nat.gcd (smN S D c d t v w (2 ^ d)) (10 ^ d)) = 0 := fun q => by
      rw [l0_iff (by omega)] at q; omega
    refine br_t ((pk_lLE (a := 1) (by decide) (by omega)).mpr f2) (pk_ne pt 0 (fun q => ⟨nz, ?_⟩) (fun q => ⟨nz, ?_⟩))
    · rw [if_neg q] at h'
      rw [pk_lDiv (by omega) f2 (by omega)]
      exact h'
    · rw [if_pos q] at h'
      rw [pk_lDiv (by omega) f2 (by omega)]
      exact h'
  · intro vc hC
    show wpX6_fogs_H102 Q _ _ _ _ _ _ _ _ _ _
    unfold wpX6_fogs_H102
    rw [sh]
    refine br_f (nI_ge hr (by omega)) (pX6_fogWeight hd hr ht ?_)
    have wl := wtN_le (r := r) ht d
    have sl := snN_le (S := S) hD c d r
    rw [lg_cmp_le]
    have e0 : (lN (wtN t r d) ≤ 0) ↔ wtN t r d ≤ 0 := pk_lLE (b := 0) (by omega) (by decide)
    rw [e0]
    have nx : ∀ vc2 : Co, RC vc2 (zoff S) (zkp D) (fogB (r + 1)) (hzm (zoff S) D c 0) 0 → ∀ x : Int64, x = lN (smN S D c d t v w (r + 1)) → wpX6_fogs_B183 Q (wpX6_fogs_L102 Q n) g vc2 (nI d) (nI t) (nI v) (nI w) (nI pt) x (nI r) := by
      intro vc2 hC2 x hx
      unfold wpX6_fogs_B183
      rw [hx]
      exact nm_r (nI_1 r) (ih vc2 hC2)
    refine ⟨fun q => nx vc hC _ ?_, fun q => ?_⟩
    · have z : wtN t r d = 0 := by omega
      have z2 : tmN S D c d t v w r = 0 := by
        unfold tmN
        rw [z, Nat.zero_mul]
        split
        · rfl
        · split <;> rfl
      show _ = lN (smN S D c d t v w r + tmN S D c d t v w r)
      rw [z2, Nat.add_zero]
    · refine pX0_run hR hS hD (hzm_le hD c 0) hC (by omega) (by omega) (fun co2 h2' => ?_)
      refine pX0_at h2' (Nat.le_refl d) (by omega) ?_
      have hC3 : RC co2 (zoff S) (zkp D) (fogB (r + 1)) (hzm (zoff S) D c 0) 0 := RC_back h2'
      show (¬ nI w = 1 → (nI (snN S D c d r) < nI v → _) ∧ (¬ nI (snN S D c d r) < nI v → _)) ∧ (nI w = 1 → _)
      have gen : ∀ s : Int64, s = lN (tmN S D c d t v w r) → wpX6_fogs_B180 Q (wpX6_fogs_L102 Q n) g co2 (nI d) (nI t) (nI v) (nI w) (nI pt) (nI r) (lN (smN S D c d t v w r)) s := by
        intro s hs
        unfold wpX6_fogs_B180
        refine nm_e (nx co2 hC3 _ ?_)
        rw [hs, lN_add]
        rfl
      refine pk_ne w 1 (fun q1 => ?_) (fun q1 => gen _ ?_)
      · refine pk_lt (snN S D c d r) v (fun q2 => gen _ ?_) (fun q2 => gen _ ?_)
        · unfold tmN
          rw [if_neg q1, if_neg (by omega)]
          rfl
        · unfold tmN
          rw [if_neg q1, if_pos (by omega)]
      · unfold tmN
        rw [if_pos q1]
        show lN (wtN t r d) * (nI (snN S D c d r)).toInt64 = _
        rw [nI_l (show snN S D c d r < 2 ^ 31 by omega), lN_mul]
set_option maxHeartbeats 200000 in
theorem pX6_fogs {g : Gr} {co : Co} {S : Sta} {D : Day} {p1 p2 p3 p4 p5 p6 : Int32} {Q : Int64 → Gr → Co → Prop} (hR : RG g S D) (hS : WS S) (hD : WD D) (h : ∀ co', Q (fogsA S D p1 p2 p3 p4 p5 p6) g co') : wpX6_fogs g co p1 p2 p3 p4 p5 p6 Q := by
  have bad : ¬ (inR p1 0 2 ∧ inR p2 0 8 ∧ inR p3 0 10 ∧ inR p4 0 999 ∧ inR p5 0 1 ∧ inR p6 0 1) → Q (-1000000000000000002) g co := by
    intro q
    have h' := h co
    unfold fogsA at h'
    rw [if_neg q] at h'
    exact h'
  have b52 : ∀ x7 s0 : Int32, (x7 = 0 → ¬ (inR p2 0 8 ∧ inR p3 0 10)) → (¬ x7 = 0 → inR p2 0 8 ∧ inR p3 0 10) → (s0 = 0 → ¬ (inR p5 0 1 ∧ inR p6 0 1)) → (¬ s0 = 0 → inR p5 0 1 ∧ inR p6 0 1) → wpX6_fogs_B52 Q g co p1 p2 p3 p4 p5 p6 x7 s0 := by
    intro x7 s0 a1 a2 a3 a4
    unfold wpX6_fogs_B52
    refine ck1X6_isColour (fun c1 => bad (fun q => c1 q.1)) (fun c1 => ⟨fun c2 => bad (fun q => a1 c2 ⟨q.2.1, q.2.2.1⟩), fun c2 => ?_⟩)
    refine ck1X6_isAmount (fun c4 => bad (fun q => c4 q.2.2.2.1)) (fun c4 => ⟨fun c5 => ?_, fun c5 => bad (fun q => a3 c5 q.2.2.2.2)⟩)
    have all : inR p1 0 2 ∧ inR p2 0 8 ∧ inR p3 0 10 ∧ inR p4 0 999 ∧ inR p5 0 1 ∧ inR p6 0 1 := ⟨c1, (a2 c2).1, (a2 c2).2, c4, (a4 c5).1, (a4 c5).2⟩
    have h' := h
    unfold fogsA at h'
    rw [if_pos all] at h'
    obtain ⟨k1, k2, k3, k4, k5, k6⟩ := all
    obtain ⟨c, hc, rfl⟩ := inR_nI (n := 2) (by decide) k1
    obtain ⟨d, hd, rfl⟩ := inR_nI (n := 8) (by decide) k2
    obtain ⟨t, ht, rfl⟩ := inR_nI (n := 10) (by decide) k3
    obtain ⟨v, hv, rfl⟩ := inR_nI (n := 999) (by decide) k4
    obtain ⟨w, hw, rfl⟩ := inR_nI (n := 1) (by decide) k5
    obtain ⟨pt, hpt, rfl⟩ := inR_nI (n := 1) (by decide) k6
    rw [nI_clamp (show c < 2 ^ 31 by omega), nI_clamp (show d < 2 ^ 31 by omega), nI_clamp (show t < 2 ^ 31 by omega), nI_clamp (show v < 2 ^ 31 by omega), nI_clamp (show w < 2 ^ 31 by omega), nI_clamp (show pt < 2 ^ 31 by omega)] at h'
    refine pX0_fromNow (mo := 0) (fogB 0) hR hS hD (by omega) (by decide) (fun co1 h1 => ?_)
    obtain ⟨n, hn⟩ := pX6_fogsL hR hS hD hd ht hv hw hpt h' 0 (Nat.zero_le _)
    exact ⟨n, hn co1 h1⟩
  have b25 : ∀ x7 : Int32, (x7 = 0 → ¬ (inR p2 0 8 ∧ inR p3 0 10)) → (¬ x7 = 0 → inR p2 0 8 ∧ inR p3 0 10) → wpX6_fogs_B25 Q g co p1 p2 p3 p4 p5 p6 x7 := by
    intro x7 a1 a2
    unfold wpX6_fogs_B25
    refine ck1X6_isWithin (fun c5 => b52 x7 0 a1 a2 (fun _ q => c5 q.1) (fun q => absurd rfl q)) (fun c5 => ?_)
    exact ck1X6_isWithin (fun c6 => b52 x7 0 a1 a2 (fun _ q => c6 q.2) (fun q => absurd rfl q)) (fun c6 => b52 x7 1 a1 a2 (fun q => absurd q one_ne) (fun _ => ⟨c5, c6⟩))
  unfold wpX6_fogs
  refine ck1X6_isWithin (fun c2 => b25 0 (fun _ q => c2 q.1) (fun q => absurd rfl q)) (fun c2 => ?_)
  exact ck1X6_isWithin (fun c3 => b25 0 (fun _ q => c3 q.2) (fun q => absurd rfl q)) (fun c3 => b25 1 (fun q => absurd q one_ne) (fun _ => ⟨c2, c3⟩))
/-! fogs: the model's side -/
def stF (D : Day) (f : Nat) : Day := (zsh D, ztn D, zkp D, f, zsn D, zou D, zdy D)
def fdA (off : Nat → Nat) (D : Day) (r : Nat) : Nat → Day
  | 0 => D
  | i + 1 => stF (passA off (fdA off D r i)) (if hasN r i then 1 else 0)
set_option maxHeartbeats 200000 in
theorem stF_WD {D : Day} {f : Nat} (h : WD D) (hf : f ≤ 1) : WD (stF D f) := ⟨h.1, h.2.1, h.2.2.1, hf, h.2.2.2.2.1, h.2.2.2.2.2.1, h.2.2.2.2.2.2⟩
set_option maxHeartbeats 200000 in
theorem fdA_ok {off : Nat → Nat} {D : Day} {r : Nat} (h : WD D) : ∀ i, zdy D + i ≤ 1000 → WD (fdA off D r i) ∧ zdy (fdA off D r i) = zdy D + i ∧ zkp (fdA off D r i) = zkp D
  | 0, _ => ⟨h, rfl, rfl⟩
  | i + 1, q => by
    obtain ⟨h1, h2, h3⟩ := fdA_ok (off := off) (r := r) h i (by omega)
    refine ⟨stF_WD (passA_WD h1 (by omega)) (by split <;> decide), ?_, h3⟩
    show zdy (fdA off D r i) + 1 = _
    omega
set_option maxHeartbeats 200000 in
theorem RN_fog {m : Mo} {N : Day} {f : Nat} (h : RN m N) : RN (Mo_s_fogNow m (nI f)) (stF N f) := ⟨h.1, h.2.1, h.2.2.1, rfl, h.2.2.2.2.1, h.2.2.2.2.2.1, h.2.2.2.2.2.2⟩
set_option maxHeartbeats 200000 in
theorem hz_fog {off : Nat → Nat} {D : Day} {r : Nat} (ho : ∀ j, 1 ≤ off j ∧ off j ≤ 9) (hD : WD D) (hy : zdy D + 8 ≤ 1000) (c : Nat) : ∀ i k, i ≤ 8 → k ≤ 9 → hzm off (fdA off D r i) c 0 k = hist off (zkp D) (fogB r) (hzm off D c 0) i k
  | 0, k, _, _ => rfl
  | i + 1, k, hi, hk => by
    show hzm off (stF (passA off (fdA off D r i)) (if hasN r i then 1 else 0)) c 0 k = if k = 0 then (if fogB r i then 0 else cap (wsm off (zkp D) (hist off (zkp D) (fogB r) (hzm off D c 0) i) 4)) else hist off (zkp D) (fogB r) (hzm off D c 0) i (k - 1)
    have hp := hz_pass (D := fdA off D r i) ho c k hk
    have kp := (fdA_ok (off := off) (r := r) hD i (by omega)).2.2
    by_cases q : k = 0
    · subst q
      rw [if_pos rfl] at hp
      rw [if_pos rfl]
      by_cases f : hasN r i
      · have e7 : fogB r i = true := by
          unfold fogB
          rw [decide_eq_true (show i < 8 by omega), Bool.true_and]
          exact decide_eq_true f
        rw [if_pos f, e7, if_pos rfl]
        show seeA off (stF (passA off (fdA off D r i)) 1) c 0 = 0
        unfold seeA
        rw [if_neg (fun u => absurd u.1 Nat.one_ne_zero)]
        rfl
      · have e7 : fogB r i = false := by
          unfold fogB
          rw [decide_eq_true (show i < 8 by omega), Bool.true_and]
          exact decide_eq_false f
        rw [if_neg f, e7, if_neg (by decide)]
        have e : stF (passA off (fdA off D r i)) 0 = passA off (fdA off D r i) := rfl
        rw [e, hp, kp]
        exact congrArg cap (wsm_cg ho (fun j hj => hz_fog ho hD hy c i j (by omega) (by omega)) 4)
    · rw [if_neg q] at hp
      rw [if_neg q]
      have e : hzm off (stF (passA off (fdA off D r i)) (if hasN r i then 1 else 0)) c 0 k = hzm off (passA off (fdA off D r i)) c 0 k := by
        unfold hzm
        rw [if_neg q, if_neg q]
        rfl
      rw [e, hp]
      exact hz_fog ho hD hy c i (k - 1) (by omega) (by omega)
set_option maxHeartbeats 200000 in
theorem see_fog {S : Sta} {D : Day} {c d r : Nat} (hS : WS S) (hE : WE D) (hd : d ≤ 8) : seeA (zoff S) (fdA (zoff S) D r d) c 0 = snN S D c d r := by
  have hy := hE.2.1
  exact hz_fog hS.1 hE.1 (by omega) c d 0 hd (Nat.zero_le _)
set_option maxHeartbeats 200000 in
theorem st7 {Q : Int64 → Mo → Prop} {m : Mo} {n a b s lo : Nat} {p6 : Int32} (ha : a < 4611686018427387904) (hb : b < 4611686018427387904) (h0 : b = 0 → (¬ p6 = 0 → ¬ lN a = 0 ∧ Q (lN lo / lN a) m) ∧ (p6 = 0 → ¬ lN a = 0 ∧ Q (lN s / lN a) m)) (h1 : ¬ b = 0 → wpX7_fogs_L228 Q n m p6 (lN s) (lN lo) (lN b) (lN (a % b))) : wpX7_fogs_L228 Q (n + 1) m p6 (lN s) (lN lo) (lN a) (lN b) := by
  show wpX7_fogs_H228 Q _ _ _ _ _ _ _
  unfold wpX7_fogs_H228
  rw [lg_cmp_eq, l0_iff hb]
  exact ⟨h0, fun q => ⟨q, nm_r (pk_lRem (by omega) (by omega) (by omega)) (h1 q)⟩⟩
set_option maxHeartbeats 200000 in
theorem pX7_gcdL {Q : Int64 → Mo → Prop} {m : Mo} {s lo : Nat} {p6 : Int32} : ∀ k a b, a < 4611686018427387904 → b < 4611686018427387904 → b < 2 ^ k → ((¬ p6 = 0 → ¬ lN (Nat.gcd a b) = 0 ∧ Q (lN lo / lN (Nat.gcd a b)) m) ∧ (p6 = 0 → ¬ lN (Nat.gcd a b) = 0 ∧ Q (lN s / lN (Nat.gcd a b)) m)) → wpX7_fogs_L228 Q (2 * k + 1) m p6 (lN s) (lN lo) (lN a) (lN b)
  | 0, a, b, ha, hb, hk, h => by
    have b0 : b = 0 := by
      rw [Nat.pow_zero] at hk; omega
    subst b0
    rw [Nat.gcd_zero_right] at h
    exact st7 ha hb (fun _ => h) (fun q => absurd rfl q)
  | k + 1, a, b, ha, hb, hk, h => by
    show wpX7_fogs_L228 Q (2 * k + 1 + 1 + 1) _ _ _ _ _ _
    refine st7 ha hb (fun q => ?_) (fun q => ?_)
    · subst q
      rw [Nat.gcd_zero_right] at h
      exact h
    · have hr : a % b < b := Nat.mod_lt _ (by omega)
      rw [eu_g] at h
      refine st7 hb (by omega) (fun q2 => ?_) (fun q2 => ?_)
      · rw [q2, Nat.gcd_zero_right] at h
        exact h
      · rw [eu_g] at h
        have h4 := eu_h hr q2 hk
        have h5 : b % (a % b) < a % b := Nat.mod_lt _ (by omega)
        exact pX7_gcdL k (a % b) (b % (a % b)) (by omega) (by omega) h4 h
set_option maxHeartbeats 200000 in
theorem pX7_fogs {m : Mo} {S : Sta} {D : Day} {sg : Nat → Nat} {cnt : Nat} {I J : Nat → Int32} {p1 p2 p3 p4 p5 p6 : Int32} {Q : Int64 → Mo → Prop} (hR : RMo m S D sg cnt I J) (hS : WS S) (hE : WE D) (h : ∀ m', FX m m' → Q (fogsA S D p1 p2 p3 p4 p5 p6) m') : wpX7_fogs m p1 p2 p3 p4 p5 p6 Q := by
  have bad : ¬ (inR p1 0 2 ∧ inR p2 0 8 ∧ inR p3 0 10 ∧ inR p4 0 999 ∧ inR p5 0 1 ∧ inR p6 0 1) → Q (-1000000000000000002) m := by
    intro q
    have h' := h m FX.rf
    unfold fogsA at h'
    rw [if_neg q] at h'
    exact h'
  unfold wpX7_fogs
  refine ck1X7_in (fun c1 => bad (fun q => c1 q.1)) (fun c1 => ?_)
  refine ck1X7_in (fun c2 => bad (fun q => c2 q.2.1)) (fun c2 => ?_)
  refine ck1X7_in (fun c3 => bad (fun q => c3 q.2.2.1)) (fun c3 => ?_)
  refine ck1X7_in (fun c4 => bad (fun q => c4 q.2.2.2.1)) (fun c4 => ?_)
  refine ck1X7_in (fun c5 => bad (fun q => c5 q.2.2.2.2.1)) (fun c5 => ?_)
  refine ck2X7_in (fun c6 => ?_) (fun c6 => bad (fun q => c6 q.2.2.2.2.2))
  have h' := h
  unfold fogsA at h'
  rw [if_pos ⟨c1, c2, c3, c4, c5, c6⟩] at h'
  obtain ⟨c, hc, rfl⟩ := inR_nI (n := 2) (by decide) c1
  obtain ⟨d, hd, rfl⟩ := inR_nI (n := 8) (by decide) c2
  obtain ⟨t, ht, rfl⟩ := inR_nI (n := 10) (by decide) c3
  obtain ⟨v, hv, rfl⟩ := inR_nI (n := 999) (by decide) c4
  obtain ⟨w, hw, rfl⟩ := inR_nI (n := 1) (by decide) c5
  obtain ⟨pt, hpt, rfl⟩ := inR_nI (n := 1) (by decide) c6
  rw [nI_clamp (show c < 2 ^ 31 by omega), nI_clamp (show d < 2 ^ 31 by omega), nI_clamp (show t < 2 ^ 31 by omega), nI_clamp (show v < 2 ^ 31 by omega), nI_clamp (show w < 2 ^ 31 by omega), nI_clamp (show pt < 2 ^ 31 by omega)] at h'
  have h2 := p2_le d (by omega)
  have h4 := p10_le d (by omega)
  have sh := shl_d d (by omega)
  have hy := hE.2.1
  have k97 : ∀ r, r ≤ 2 ^ d → ∃ n, ∀ m2 : Mo, FN m m2 → wpX7_fogs_L97 Q n m2 (nI c) (nI d) (nI t) (nI v) (nI w) (nI pt) (lN (smN S D c d t v w r)) (lN (10 ^ d)) (nI r) := by
    refine up_loop (2 ^ d) (fun n => ?_) (fun n r hr ih => ?_)
    · intro m2 hF
      obtain ⟨f1, f2, f3⟩ := foA_fin (S := S) (D := D) (c := c) (v := v) (w := w) (pt := pt) hE.1 hd ht
      show wpX7_fogs_H97 Q _ _ _ _ _ _ _ _ _ _ _
      unfold wpX7_fogs_H97
      rw [sh]
      have h9 := h' m2 hF.X
      unfold foA at h9
      have nz : ¬ lN (Nat.gcd (smN S D c d t v w (2 ^ d)) (10 ^ d)) = 0 := fun q => by
        rw [l0_iff (by omega)] at q; omega
      refine br_t (nI_le (Nat.le_refl _) (by omega)) ⟨_, pX7_gcdL 27 _ _ f1 (by omega) (p27_lt h4) (pk_ne pt 0 (fun q => ⟨nz, ?_⟩) (fun q => ⟨nz, ?_⟩))⟩
      · rw [if_neg q] at h9
        rw [pk_lDiv (by omega) f2 (by omega)]
        exact h9
      · rw [if_pos q] at h9
        rw [pk_lDiv (by omega) f2 (by omega)]
        exact h9
    · intro m2 hF
      show wpX7_fogs_H97 Q _ _ _ _ _ _ _ _ _ _ _
      unfold wpX7_fogs_H97
      rw [sh]
      refine br_f (nI_ge hr (by omega)) (pX7_asNow (hF.P hR.2.1) (fun m3 hF3 hN3 => ?_))
      have k115 : ∀ i, i ≤ d → ∃ q, ∀ m4 : Mo, FN m m4 → RN m4 (fdA (zoff S) D r i) → wpX7_fogs_L115 Q (wpX7_fogs_L97 Q n) q m4 (nI c) (nI d) (nI t) (nI v) (nI w) (nI pt) (lN (smN S D c d t v w r)) (lN (10 ^ d)) (nI r) (lN (wtN t r i)) (nI i) := by
        refine up_loop d (fun q => ?_) (fun q i hi ihi => ?_)
        · intro m4 hF4 hN4
          show wpX7_fogs_H115 Q _ _ _ _ _ _ _ _ _ _ _ _ _ _
          unfold wpX7_fogs_H115
          have wd := (fdA_ok (off := zoff S) (r := r) hE.1 d (by omega)).1
          have sl := snN_le (S := S) hE.1 c d r
          have sf := see_fog (c := c) (r := r) hS hE hd
          have gen : ∀ s : Int64, s = lN (tmN S D c d t v w r) → wpX7_fogs_B211 Q (wpX7_fogs_L97 Q n) m4 (nI c) (nI d) (nI t) (nI v) (nI w) (nI pt) (lN (10 ^ d)) (nI r) (lN (smN S D c d t v w r)) s := by
            intro s hs
            unfold wpX7_fogs_B211
            refine nm_r (e' := lN (smN S D c d t v w (r + 1))) ?_ (nm_r (nI_1 r) (ih m4 hF4))
            rw [hs, lN_add]
            rfl
          refine br_t (nI_le (Nat.le_refl _) (by omega)) (pk_ne w 1 (fun q1 => ?_) (fun q1 => ?_))
          · refine pX7_see (hF4.S hR.1) hN4 hS wd (by omega) ?_
            rw [sf]
            refine pk_lt (snN S D c d r) v (fun q2 => gen _ ?_) (fun q2 => gen _ ?_)
            · unfold tmN
              rw [if_neg q1, if_neg (by omega)]
              rfl
            · unfold tmN
              rw [if_neg q1, if_pos (by omega)]
          · refine pX7_see (hF4.S hR.1) hN4 hS wd (by omega) ?_
            rw [sf]
            refine gen _ ?_
            unfold tmN
            rw [if_pos q1, nI_l (show snN S D c d r < 2 ^ 31 by omega), lN_mul]
        · intro m4 hF4 hN4
          show wpX7_fogs_H115 Q _ _ _ _ _ _ _ _ _ _ _ _ _ _
          unfold wpX7_fogs_H115
          have wd := (fdA_ok (off := zoff S) (r := r) hE.1 i (by omega)).1
          refine br_f (nI_ge hi (by omega)) (pX7_pass (hF4.S hR.1) hN4 hS wd (fun m5 hF5 hN5 => ?_))
          have fin : ∀ (f : Nat) (x : Int64), f = (if hasN r i then 1 else 0) → x = lN (wtN t r (i + 1)) → wpX7_fogs_B166 Q (wpX7_fogs_L97 Q n) (wpX7_fogs_L115 Q (wpX7_fogs_L97 Q n) q) m5 (nI c) (nI d) (nI t) (nI v) (nI w) (nI pt) (lN (smN S D c d t v w r)) (lN (10 ^ d)) (nI r) x (nI i) (nI f) := by
            intro f x hf hx
            unfold wpX7_fogs_B166
            rw [hx]
            refine nm_r (nI_1 i) (ihi _ ((hF4.trans hF5).fog _) ?_)
            have rn := RN_fog (f := f) hN5
            rw [hf] at rn
            rw [hf]
            exact rn
          refine pX7_has (by omega) (by omega) (fun b => br_f one_ne ?_) (fun b => br_t rfl ?_)
          · unfold wpX7_fogs_B147
            refine nm_e (pX7_has (by omega) (by omega) (fun b2 => br_f one_ne (fin 1 _ (if_pos b).symm ?_)) (fun b2 => absurd b b2))
            rw [nI_l (show t < 2 ^ 31 by omega), lN_mul]
            show _ = lN (wtN t r i * (if hasN r i then t else 10 - t))
            rw [if_pos b]
          · unfold wpX7_fogs_B147
            refine nm_e (pX7_has (by omega) (by omega) (fun b2 => absurd b2 b) (fun b2 => br_t rfl (fin 0 _ (if_neg b).symm ?_)))
            have e1 : (10 : Int32) - nI t = nI (10 - t) := n_sub (a := 10) ht
            rw [e1, nI_l (show 10 - t < 2 ^ 31 by omega), lN_mul]
            show _ = lN (wtN t r i * (if hasN r i then t else 10 - t))
            rw [if_neg b]
      obtain ⟨q, hq⟩ := k115 0 (Nat.zero_le _)
      exact ⟨q, hq m3 (hF.trans hF3) hN3⟩
  have k74 : ∀ i, i ≤ d → ∃ n, wpX7_fogs_L74 Q n m (nI c) (nI d) (nI t) (nI v) (nI w) (nI pt) 0 (lN (10 ^ i)) (nI i) := by
    refine up_loop d (fun n => ?_) (fun n i hi ih => ?_)
    · show wpX7_fogs_H74 Q _ _ _ _ _ _ _ _ _ _ _
      unfold wpX7_fogs_H74
      obtain ⟨q, hq⟩ := k97 0 (Nat.zero_le _)
      exact br_t (nI_le (Nat.le_refl _) (by omega)) ⟨q, hq m FN.rf⟩
    · show wpX7_fogs_H74 Q _ _ _ _ _ _ _ _ _ _ _
      unfold wpX7_fogs_H74
      refine br_f (nI_ge hi (by omega)) (nm_r (e' := lN (10 ^ (i + 1))) ?_ (nm_r (nI_1 i) ih))
      have e10 : (10 : Int64) = lN 10 := rfl
      rw [e10, lN_mul, Nat.pow_succ]
  exact k74 0 (Nat.zero_le _)
