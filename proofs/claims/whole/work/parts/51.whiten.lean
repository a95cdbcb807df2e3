/-! whiten -/
def bitsN (s : Nat) : Nat := s % 2 + s / 2 % 2 + s / 4 % 2 + s / 8 % 2
set_option maxHeartbeats 200000 in
theorem bc_16 : ∀ s, s < 16 → ((((((nI s - (((nI s).toUInt32 >>> ((1 : Int32).toUInt32 &&& Int32.toUInt32 31)).toInt32 &&& 1431655765)) &&& 858993459) + (((nI s - (((nI s).toUInt32 >>> ((1 : Int32).toUInt32 &&& Int32.toUInt32 31)).toInt32 &&& 1431655765)).toUInt32 >>> ((2 : Int32).toUInt32 &&& Int32.toUInt32 31)).toInt32 &&& 858993459)) + ((((nI s - (((nI s).toUInt32 >>> ((1 : Int32).toUInt32 &&& Int32.toUInt32 31)).toInt32 &&& 1431655765)) &&& 858993459) + (((nI s - (((nI s).toUInt32 >>> ((1 : Int32).toUInt32 &&& Int32.toUInt32 31)).toInt32 &&& 1431655765)).toUInt32 >>> ((2 : Int32).toUInt32 &&& Int32.toUInt32 31)).toInt32 &&& 858993459)).toUInt32 >>> ((4 : Int32).toUInt32 &&& Int32.toUInt32 31)).toInt32) &&& 252645135) = nI (bitsN s)) := by decide +kernel
set_option maxHeartbeats 200000 in
theorem bc_tail : ∀ b, b < 9 → ((nI b + ((nI b).toUInt32 >>> ((8 : Int32).toUInt32 &&& Int32.toUInt32 31)).toInt32) + ((nI b + ((nI b).toUInt32 >>> ((8 : Int32).toUInt32 &&& Int32.toUInt32 31)).toInt32).toUInt32 >>> ((16 : Int32).toUInt32 &&& Int32.toUInt32 31)).toInt32) &&& 63 = nI b := by decide +kernel
set_option maxHeartbeats 200000 in
theorem bitsN_le (s : Nat) : bitsN s ≤ 4 := by unfold bitsN; omega
set_option maxHeartbeats 200000 in
theorem pJ6_bitCount {s : Nat} {Q : Int32 → Prop} (hs : s < 16) (h : Q (nI (bitsN s))) : wpJ6_bitCount_0f7a4 (nI s) Q := by
  unfold wpJ6_bitCount_0f7a4
  refine nm_e (nm_e (nm_r (bc_16 s hs) (nm_e (nm_e ?_))))
  rw [bc_tail (bitsN s) (by have := bitsN_le s; omega)]
  exact h
set_option maxHeartbeats 200000 in
theorem pX7_bits {s : Nat} {Q : Int32 → Prop} (hs : s < 16) (h : Q (nI (bitsN s))) : wpX7_bits (nI s) Q := by
  unfold wpX7_bits
  let B : Nat → Nat := fun k => if k = 0 then 0 else if k = 1 then s % 2 else if k = 2 then s % 2 + s / 2 % 2 else if k = 3 then s % 2 + s / 2 % 2 + s / 4 % 2 else bitsN s
  have key : ∀ k, k ≤ 6 → ∃ n, wpX7_bits_L4 Q n (nI s) (nI (B k)) (nI k) := by
    refine up_loop 6 (fun n => ?_) (fun n k hk ih => ?_)
    · show wpX7_bits_H4 Q _ _ _ _
      unfold wpX7_bits_H4
      exact br_t (nI_le (by decide) (by decide)) h
    · show wpX7_bits_H4 Q _ _ _ _
      unfold wpX7_bits_H4
      refine br_f (nI_ge hk (by decide)) ?_
      rw [bit_nI (by omega) (by omega), n_add]
      refine nm_r (e' := nI (B (k + 1))) ?_ (nm_r (nI_1 k) ih)
      congr 1
      rcases (show k = 0 ∨ k = 1 ∨ k = 2 ∨ k = 3 ∨ k = 4 ∨ k = 5 by omega) with rfl | rfl | rfl | rfl | rfl | rfl
      · show 0 + s / 2 ^ 0 % 2 = s % 2
        rw [Nat.pow_zero, Nat.div_one, Nat.zero_add]
      · rfl
      · rfl
      · rfl
      · show bitsN s + s / 2 ^ 4 % 2 = bitsN s
        have : s / 2 ^ 4 = 0 := Nat.div_eq_of_lt hs
        omega
      · show bitsN s + s / 2 ^ 5 % 2 = bitsN s
        have : s / 2 ^ 5 = 0 := Nat.div_eq_of_lt (by omega)
        omega
  exact key 0 (by decide)
/-- the most of f from d to below n -/
def mxF (f : Nat → Nat) (d : Nat) : Nat → Nat
  | 0 => 0
  | n + 1 => if d ≤ n then max (mxF f d n) (f n) else mxF f d n
set_option maxHeartbeats 200000 in
theorem mxF_le {f : Nat → Nat} {B : Nat} (hf : ∀ k, f k ≤ B) (d : Nat) : ∀ n, mxF f d n ≤ B
  | 0 => Nat.zero_le _
  | n + 1 => by
    have ih := mxF_le hf d n
    have h1 := hf n
    unfold mxF
    split <;> omega
set_option maxHeartbeats 200000 in
theorem mxF_0 {f : Nat → Nat} {d : Nat} : ∀ n, n ≤ d → mxF f d n = 0
  | 0, _ => rfl
  | n + 1, h => by
    unfold mxF
    rw [if_neg (by omega)]
    exact mxF_0 n (by omega)
set_option maxHeartbeats 200000 in
theorem pX0_mostFrom {co : Co} {off kp : Nat → Nat} {fg : Nat → Bool} {h0 : Nat → Nat} {d : Nat} {Q : Int32 → Co → Prop} (hh : ∀ k, h0 k ≤ 999) (h : RC co off kp fg h0 60) (hd : d ≤ 60) (hq : Q (nI (mxF (fun e => hist off kp fg h0 e 0) d 61)) co) : wpX0_mostFrom co (nI d) Q := by
  unfold wpX0_mostFrom
  have hf : ∀ k, (fun e => hist off kp fg h0 e 0) k ≤ 999 := fun k => hist_le hh k 0
  have key : ∀ i, i ≤ 61 → ∃ n, d ≤ i → wpX0_mostFrom_L4 Q n co (nI (mxF (fun e => hist off kp fg h0 e 0) d i)) (nI i) := by
    refine up_loop 61 (fun n => ?_) (fun n i hi ih => ?_)
    · intro _
      show wpX0_mostFrom_H4 Q _ _ _ _
      unfold wpX0_mostFrom_H4
      exact br_t (nI_lt (by decide) (by decide)) hq
    · intro hdi
      show wpX0_mostFrom_H4 Q _ _ _ _
      unfold wpX0_mostFrom_H4
      refine br_f (nI_nlt (a := 60) (b := i) (by omega) (by decide)) ?_
      refine pX0_at h (by omega) (by decide) ?_
      have b1 := mxF_le hf d i
      have b2 := hf i
      rw [if_max (by omega) (show hist off kp fg h0 i 0 < 2147483648 by have : hist off kp fg h0 i 0 ≤ 999 := b2; omega)]
      have ih2 := ih (by omega)
      have e : mxF (fun e => hist off kp fg h0 e 0) d (i + 1) = if d ≤ i then max (mxF (fun e => hist off kp fg h0 e 0) d i) (hist off kp fg h0 i 0) else mxF (fun e => hist off kp fg h0 e 0) d i := rfl
      rw [e, if_pos hdi] at ih2
      exact nm_e (nm_r (nI_1 i) ih2)
  obtain ⟨n, hn⟩ := key d (by omega)
  have hn2 := hn (Nat.le_refl d)
  rw [mxF_0 d (Nat.le_refl d)] at hn2
  exact ⟨n, hn2⟩
/-- the walls of a set whitened -/
def whD (D : Day) (s : Nat) : Day := (zsh D, ztn D, fun w => if hasN s w then 0 else zkp D w, D.2.2.2)
set_option maxHeartbeats 200000 in
theorem whD_WD {D : Day} (hD : WD D) (s : Nat) : WD (whD D s) := ⟨hD.1, hD.2.1, fun j => by
  show (if hasN s j then 0 else zkp D j) ≤ 9
  split
  · exact Nat.zero_le _
  · exact hD.2.2.1 j, hD.2.2.2⟩
/-- with the set whitened no colour is seen above v from day d on -/
def fadeP (off : Nat → Nat) (D : Day) (d v s : Nat) : Prop := mxF (fun e => fcA off (whD D s) 0 e 0) d 61 ≤ v ∧ mxF (fun e => fcA off (whD D s) 1 e 0) d 61 ≤ v ∧ mxF (fun e => fcA off (whD D s) 2 e 0) d 61 ≤ v
set_option maxHeartbeats 200000 in
theorem pX6_fadesWithout {g s : Gr} {co : Co} {S : Sta} {D : Day} {set d v : Nat} {Q : Int32 → Gr → Gr → Co → Prop} (hR : RG g S D) (hS : WS S) (hD : WD D) (hs : set < 16) (hd : d ≤ 60) (hv : v ≤ 999) (h1 : fadeP (zoff S) D d v set → ∀ s' co', Q 1 g s' co') (h0 : ¬ fadeP (zoff S) D d v set → ∀ s' co', Q 0 g s' co') : wpX6_fadesWithout g s co (nI set) (nI d) (nI v) Q := by
  unfold wpX6_fadesWithout
  refine pX3_become hR hD (fun s1 hR1 => ?_)
  -- the colours
  have cols : ∀ s2, RG s2 S (whD D set) → ∀ co, ∃ n, wpX6_fadesWithout_L49 Q n g s2 co (nI d) (nI v) (nI 0) := by
    intro s2 hR2
    have hD2 := whD_WD hD set
    have key : ∀ c, c ≤ 3 → ∃ n, (∀ k, k < c → mxF (fun e => fcA (zoff S) (whD D set) k e 0) d 61 ≤ v) → ∀ co : Co, wpX6_fadesWithout_L49 Q n g s2 co (nI d) (nI v) (nI c) := by
      refine up_loop 3 (fun n => ?_) (fun n c hc ih => ?_)
      · intro ha co
        show wpX6_fadesWithout_H49 Q _ _ _ _ _ _ _
        unfold wpX6_fadesWithout_H49
        exact br_t (nI_le (by decide) (by decide)) (h1 ⟨ha 0 (by decide), ha 1 (by decide), ha 2 (by decide)⟩ s2 co)
      · intro ha co
        show wpX6_fadesWithout_H49 Q _ _ _ _ _ _ _
        unfold wpX6_fadesWithout_H49
        refine br_f (nI_ge hc (by decide)) ?_
        refine pX0_fromNow (mo := 0) (fogB 0) hR2 hS hD2 hc (by decide) (fun co1 q1 => ?_)
        refine pX0_run (d := 60) (f := 0) hR2 hS hD2 (hzm_le hD2 c 0) q1 (by decide) (by decide) (fun co2 q2 => ?_)
        rw [fogB_0] at q2
        refine pX0_mostFrom (hzm_le hD2 c 0) q2 hd ?_
        have b1 := mxF_le (f := fun e => hist (zoff S) (zkp (whD D set)) (fun _ => false) (hzm (zoff S) (whD D set) c 0) e 0) (B := 999) (fun k => hist_le (hzm_le hD2 c 0) k 0) d 61
        refine pk_le (mxF (fun e => hist (zoff S) (zkp (whD D set)) (fun _ => false) (hzm (zoff S) (whD D set) c 0) e 0) d 61) v (fun q => nm_r (nI_1 c) (ih (fun k hk => ?_) co2)) (fun q => h0 (fun w => ?_) s2 co2)
        · rcases Nat.lt_or_ge k c with w | w
          · exact ha k w
          · have : k = c := by omega
            subst this; exact q
        · have q9 : v < mxF (fun e => fcA (zoff S) (whD D set) c e 0) d 61 := q
          rcases (show c = 0 ∨ c = 1 ∨ c = 2 by omega) with rfl | rfl | rfl
          · exact absurd w.1 (by omega)
          · exact absurd w.2.1 (by omega)
          · exact absurd w.2.2 (by omega)
    intro co
    obtain ⟨n, hn⟩ := key 0 (by decide)
    exact ⟨n, hn (fun k hk => absurd hk (Nat.not_lt_zero k)) co⟩
  have key : ∀ w, w ≤ 4 → ∃ n, ∀ s2 : Gr, RG s2 S (zsh D, ztn D, fun x => if x < w ∧ hasN set x then 0 else zkp D x, D.2.2.2) → wpX6_fadesWithout_L14 Q n g s2 co (nI set) (nI d) (nI v) (nI w) := by
    refine up_loop 4 (fun n => ?_) (fun n w hw ih => ?_)
    · intro s2 hR2
      show wpX6_fadesWithout_H14 Q _ _ _ _ _ _ _ _
      unfold wpX6_fadesWithout_H14
      refine br_t (nI_le (by decide) (by decide)) (cols s2 ?_ co)
      obtain ⟨r1, r2, r3, r4, r5, r6, r7, r8, r9, r10⟩ := hR2
      refine ⟨r1, r2, r3, r4, r5, r6, r7, r8, aI_cg r9 (fun j hj => ?_), r10⟩
      show (if j < 4 ∧ hasN set j then 0 else zkp D j) = (if hasN set j then 0 else zkp D j)
      by_cases q : hasN set j
      · rw [if_pos ⟨hj, q⟩, if_pos q]
      · rw [if_neg (fun x => q x.2), if_neg q]
    · intro s2 hR2
      show wpX6_fadesWithout_H14 Q _ _ _ _ _ _ _ _
      unfold wpX6_fadesWithout_H14 wpX6_fadesWithout_B40
      refine br_f (nI_ge hw (by decide)) ?_
      obtain ⟨r1, r2, r3, r4, r5, r6, r7, r8, r9, r10⟩ := hR2
      refine pX6_has (by omega) (by omega) (fun q => br_f one_ne ⟨vp_in_nI hw (by decide), ?_⟩) (fun q => br_t rfl ?_)
      · refine nm_r (nI_1 w) (ih _ ⟨r1, r2, r3, r4, r5, r6, r7, r8, aI_cg (aI_up (v := 0) r9) (fun j hj => ?_), r10⟩)
        show (if j = w then 0 else if j < w ∧ hasN set j then 0 else zkp D j) = (if j < w + 1 ∧ hasN set j then 0 else zkp D j)
        by_cases q1 : j = w
        · subst q1
          rw [if_pos rfl, if_pos ⟨by omega, q⟩]
        · rw [if_neg q1]
          by_cases q2 : j < w ∧ hasN set j
          · rw [if_pos q2, if_pos ⟨by omega, q2.2⟩]
          · rw [if_neg q2, if_neg (fun x => q2 ⟨by omega, x.2⟩)]
      · refine nm_r (nI_1 w) (ih _ ⟨r1, r2, r3, r4, r5, r6, r7, r8, aI_cg r9 (fun j hj => ?_), r10⟩)
        show (if j < w ∧ hasN set j then 0 else zkp D j) = (if j < w + 1 ∧ hasN set j then 0 else zkp D j)
        by_cases q2 : j < w ∧ hasN set j
        · rw [if_pos q2, if_pos ⟨by omega, q2.2⟩]
        · rw [if_neg q2, if_neg (fun x => by
            rcases Nat.lt_or_ge j w with y | y
            · exact q2 ⟨y, x.2⟩
            · have : j = w := by omega
              subst this; exact q x.2)]
  obtain ⟨n, hn⟩ := key 0 (by decide)
  refine ⟨n, hn s1 ?_⟩
  obtain ⟨r1, r2, r3, r4, r5, r6, r7, r8, r9, r10⟩ := hR1
  refine ⟨r1, r2, r3, r4, r5, r6, r7, r8, aI_cg r9 (fun j hj => ?_), r10⟩
  show _ = (if j < 0 ∧ hasN set j then 0 else zkp D j)
  rw [if_neg (fun x => absurd x.1 (Nat.not_lt_zero j))]
/-- the fewest walls, and which, of the sets below n -/
noncomputable def wtA (off : Nat → Nat) (D : Day) (d v : Nat) : Nat → Option Nat × Nat
  | 0 => (none, 5)
  | n + 1 => @ite _ (bitsN n < (wtA off D d v n).2 ∧ fadeP off D d v n) (Classical.propDecidable _) (some n, bitsN n) (wtA off D d v n)
noncomputable def whitenA (off : Nat → Nat) (D : Day) (p1 p2 p3 : Int32) : Int32 := if inR p1 0 60 ∧ inR p2 0 999 ∧ inR p3 0 1 then (match wtA off D p1.toNatClampNeg p2.toNatClampNeg 16 with
  | (none, _) => -6
  | (some s, b) => if p3 = 0 then nI b else nI s) else -2
set_option maxHeartbeats 200000 in
/-- none yet, with five; or a set, with its number -/
theorem wtA_is {off : Nat → Nat} {D : Day} {d v : Nat} : ∀ n, wtA off D d v n = (none, 5) ∨ ∃ s, s < n ∧ wtA off D d v n = (some s, bitsN s)
  | 0 => Or.inl rfl
  | n + 1 => by
    unfold wtA
    split
    · exact Or.inr ⟨n, by omega, rfl⟩
    · rcases wtA_is (off := off) (D := D) (d := d) (v := v) n with h | ⟨s, hs, h⟩
      · exact Or.inl h
      · exact Or.inr ⟨s, by omega, h⟩
def oI (o : Option Nat) : Int32 := match o with
  | none => -6
  | some s => nI s
set_option maxHeartbeats 200000 in
theorem wtA_pos {off : Nat → Nat} {D : Day} {d v n : Nat} (h : bitsN n < (wtA off D d v n).2 ∧ fadeP off D d v n) : wtA off D d v (n + 1) = (some n, bitsN n) := by
  show @ite _ _ (Classical.propDecidable _) _ _ = _
  rw [if_pos h]
set_option maxHeartbeats 200000 in
theorem wtA_neg {off : Nat → Nat} {D : Day} {d v n : Nat} (h : ¬ (bitsN n < (wtA off D d v n).2 ∧ fadeP off D d v n)) : wtA off D d v (n + 1) = wtA off D d v n := by
  show @ite _ _ (Classical.propDecidable _) _ _ = _
  rw [if_neg h]
set_option maxHeartbeats 200000 in
theorem in01 {p : Int32} (h : inR p 0 1) : p = 0 ∨ p = 1 := by
  obtain ⟨j, hj, rfl⟩ := inR_nI (n := 1) (by decide) h
  rcases (show j = 0 ∨ j = 1 by omega) with rfl | rfl
  · exact Or.inl rfl
  · exact Or.inr rfl
set_option maxHeartbeats 200000 in
theorem pX6_whiten {g s : Gr} {co : Co} {S : Sta} {D : Day} {p1 p2 p3 : Int32} {Q : Int32 → Gr → Gr → Co → Prop} (hR : RG g S D) (hS : WS S) (hD : WD D) (h : ∀ s' co', Q (whitenA (zoff S) D p1 p2 p3) g s' co') : wpX6_whiten g s co p1 p2 p3 Q := by
  unfold whitenA at h
  unfold wpX6_whiten
  refine ck1X6_isAhead (fun c1 => ?_) (fun c1 => ?_)
  · rw [if_neg (fun q => c1 q.1)] at h; exact h s co
  refine ck1X6_isAmount (fun c2 => ?_) (fun c2 => ?_)
  · rw [if_neg (fun q => c2 q.2.1)] at h; exact h s co
  refine ck2X6_isWithin (fun c3 => ?_) (fun c3 => ?_)
  · rw [if_pos ⟨c1, c2, c3⟩] at h
    obtain ⟨d, hd, rfl⟩ := inR_nI (n := 60) (by decide) c1
    obtain ⟨v, hv, rfl⟩ := inR_nI (n := 999) (by decide) c2
    rw [nI_clamp (show d < 2 ^ 31 by omega), nI_clamp (show v < 2 ^ 31 by omega)] at h
    have key : ∀ i, i ≤ 16 → ∃ n, ∀ (s : Gr) (co : Co), wpX6_whiten_L36 Q n g s co (nI d) (nI v) p3 (oI (wtA (zoff S) D d v i).1) (nI (wtA (zoff S) D d v i).2) (nI i) := by
      refine up_loop 16 (fun n => ?_) (fun n i hi ih => ?_)
      · intro s co
        show wpX6_whiten_H36 Q _ _ _ _ _ _ _ _ _ _
        unfold wpX6_whiten_H36
        refine br_t (nI_lt (by decide) (by decide)) ?_
        rcases wtA_is (off := zoff S) (D := D) (d := d) (v := v) 16 with e | ⟨x, hx, e⟩
        · rw [e] at h ⊢
          exact bn_f rfl (h s co)
        · rw [e] at h ⊢
          refine bn_t (fun q => ?_) (bn_c (fun q => ?_) (fun q => ?_))
          · have q2 : nI x = -6 := q
            have h1 : (nI x).toInt = (-6 : Int32).toInt := by rw [q2]
            rw [nI_toInt (by omega)] at h1
            have : ((-6 : Int32).toInt) = -6 := by decide
            omega
          · have h2 : Q (if p3 = 0 then nI (bitsN x) else nI x) g s co := h s co
            rw [if_neg q] at h2; exact h2
          · have h2 : Q (if p3 = 0 then nI (bitsN x) else nI x) g s co := h s co
            rw [if_pos q] at h2; exact h2
      · intro s co
        show wpX6_whiten_H36 Q _ _ _ _ _ _ _ _ _ _
        unfold wpX6_whiten_H36
        refine br_f (nI_nlt (a := 15) (b := i) (by omega) (by decide)) ?_
        refine pJ6_bitCount hi ?_
        have b1 := bitsN_le i
        have b2 : (wtA (zoff S) D d v i).2 ≤ 5 := by
          rcases wtA_is (off := zoff S) (D := D) (d := d) (v := v) i with e | ⟨x, hx, e⟩
          · rw [e]; exact Nat.le_refl 5
          · rw [e]
            have := bitsN_le x
            show bitsN x ≤ 5
            omega
        have stay : ¬ (bitsN i < (wtA (zoff S) D d v i).2 ∧ fadeP (zoff S) D d v i) → ∀ s co, wpX6_whiten_B76 Q (wpX6_whiten_L36 Q n) g s co (nI d) (nI v) p3 (oI (wtA (zoff S) D d v i).1) (nI (wtA (zoff S) D d v i).2) (nI i) := by
          intro q s co
          unfold wpX6_whiten_B76
          have ih2 := ih s co
          rw [wtA_neg q] at ih2
          exact nm_r (nI_1 i) ih2
        refine pk_le (wtA (zoff S) D d v i).2 (bitsN i) (fun q => stay (fun w => absurd w.1 (by omega)) s co) (fun q => ?_)
        refine pX6_fadesWithout hR hS hD hi hd hv (fun w s' co' => br_f one_ne ?_) (fun w s' co' => br_t rfl (stay (fun x => w x.2) s' co'))
        unfold wpX6_whiten_B76
        have ih2 := ih s' co'
        rw [wtA_pos ⟨q, w⟩] at ih2
        exact nm_r (nI_1 i) ih2
    obtain ⟨n, hn⟩ := key 0 (by decide)
    exact ⟨n, hn s co⟩
  · rw [if_neg (fun q => c3 q.2.2)] at h; exact h s co
