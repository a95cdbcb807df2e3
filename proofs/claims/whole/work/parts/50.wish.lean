/-! wish -/
/-- what the dresses of a set show of colour c, the first i of them looked at -/
def wos (ds : Nat → Nat) (set c : Nat) : Nat → Nat
  | 0 => 0
  | k + 1 => wos ds set c k + (if hasN set k then ds (3 * k + c) else 0)
set_option maxHeartbeats 200000 in
theorem wos_le {ds : Nat → Nat} (hd : ∀ j, ds j ≤ 99) (set c : Nat) : ∀ k, wos ds set c k ≤ k * 99
  | 0 => Nat.zero_le _
  | k + 1 => by
    have ih := wos_le hd set c k
    have h1 := hd (3 * k + c)
    unfold wos
    split <;> omega
set_option maxHeartbeats 200000 in
theorem pX3_worthOfSet {g : Gr} {S : Sta} {D : Day} {set c : Nat} {Q : Int32 → Gr → Prop} (hR : RG g S D) (hs : set < 64) (hc : c < 3) (h : Q (nI (wos (zds S) set c 6)) g) : wpX3_worthOfSet g (nI set) (nI c) Q := by
  unfold wpX3_worthOfSet
  have key : ∀ k, k ≤ 6 → ∃ n, wpX3_worthOfSet_L5 Q n g (nI set) (nI c) (nI (wos (zds S) set c k)) (nI k) := by
    refine up_loop 6 (fun n => ?_) (fun n k hk ih => ?_)
    · show wpX3_worthOfSet_H5 Q _ _ _ _ _ _
      unfold wpX3_worthOfSet_H5
      exact br_t (nI_le (by decide) (by decide)) h
    · show wpX3_worthOfSet_H5 Q _ _ _ _ _ _
      unfold wpX3_worthOfSet_H5
      refine br_f (nI_ge hk (by decide)) ?_
      have e : wos (zds S) set c (k + 1) = wos (zds S) set c k + (if hasN set k then zds S (3 * k + c) else 0) := rfl
      rw [e] at ih
      unfold wpX3_worthOfSet_B31
      refine pX6_has (by omega) (by omega) (fun q => br_f one_ne ?_) (fun q => br_t rfl ?_)
      · rw [if_pos q] at ih
        refine pX3_worth hR hk hc (nm_r (n_add _ _) (nm_r (nI_1 k) ih))
      · rw [if_neg q] at ih
        exact nm_r (nI_1 k) ih
  exact key 0 (by decide)
def absd (a b : Nat) : Nat := if a ≤ b then b - a else a - b
set_option maxHeartbeats 200000 in
theorem absd_le {a b B : Nat} (ha : a ≤ B) (hb : b ≤ B) : absd a b ≤ B := by unfold absd; split <;> omega
set_option maxHeartbeats 200000 in
theorem abs_if {a b : Nat} (ha : a ≤ 999) (hb : b ≤ 999) : (if 0 ≤ nI a - nI b then nI a - nI b else 0 - (nI a - nI b)) = nI (absd a b) := by
  unfold absd
  by_cases q : b ≤ a
  · rw [n_sub q, if_pos (nI_pos' (by omega))]
    by_cases q2 : a ≤ b
    · rw [if_pos q2]; congr 1; omega
    · rw [if_neg q2]
  · have hneg : nI a - nI b < 0 := pk_sneg (by omega) (by omega)
    have hn : ¬ (0 : Int32) ≤ nI a - nI b := fun w => by
      have h1 := Int32.le_iff_toInt_le.mp w
      have h2 := Int32.lt_iff_toInt_lt.mp hneg
      exact absurd (Int.lt_of_le_of_lt h1 h2) (Int.lt_irrefl _)
    rw [if_neg hn, if_pos (by omega)]
    have e : (0 : Int32) - (nI a - nI b) = nI b - nI a := by grind
    rw [e, n_sub (by omega)]
set_option maxHeartbeats 200000 in
theorem pX7_apartBy {a b : Nat} {Q : Int32 → Prop} (ha : a ≤ 999) (hb : b ≤ 999) (h : Q (nI (absd a b))) : wpX7_apartBy (nI a) (nI b) Q := by
  unfold wpX7_apartBy
  unfold absd at h
  refine pk_le a b (fun q => ?_) (fun q => ?_)
  · rw [if_pos q] at h; rw [n_sub q]; exact h
  · rw [if_neg (by omega)] at h; rw [n_sub (by omega)]; exact h
/-- how far what is seen is from the wish, the set going out -/
def dfA (S : Sta) (D : Day) (d w set : Nat) : Nat := absd (fcA (zoff S) D 0 d (wos (zds S) set 0 6)) (w / 1000000) + absd (fcA (zoff S) D 1 d (wos (zds S) set 1 6)) (w / 1000 % 1000) + absd (fcA (zoff S) D 2 d (wos (zds S) set 2 6)) (w % 1000)
set_option maxHeartbeats 200000 in
theorem dfA_le {S : Sta} {D : Day} (hD : WD D) {d w set : Nat} (hw : w ≤ 999999999) : dfA S D d w set ≤ 2997 := by
  have h0 := absd_le (fcA_le (off := zoff S) hD 0 d (wos (zds S) set 0 6)) (show w / 1000000 ≤ 999 by omega)
  have h1 := absd_le (fcA_le (off := zoff S) hD 1 d (wos (zds S) set 1 6)) (show w / 1000 % 1000 ≤ 999 by omega)
  have h2 := absd_le (fcA_le (off := zoff S) hD 2 d (wos (zds S) set 2 6)) (show w % 1000 ≤ 999 by omega)
  unfold dfA
  omega
set_option maxHeartbeats 200000 in
theorem w_e1 {w : Nat} (hw : w ≤ 999999999) : nI w / 1000000 = nI (w / 1000000) := by simp (disch := omega) only [k_0, k_1, k_2, k_3, k_4, k_5, k_6, k_7, k_8, k_9, k_10, k_15, k_16, k_18, k_20, k_26, k_27, k_31, k_33, k_46, k_48, k_49, k_51, k_53, k_57, k_60, k_61, k_63, k_64, k_65, k_70, k_71, k_74, k_75, k_80, k_81, k_82, k_83, k_84, k_85, k_98, k_99, k_100, k_102, k_114, k_115, k_119, k_121, k_126, k_200, k_999, k_1000, k_3000, k_9999, k_65537, k_1000000, k_999999999, k_500, n_mul, n_add, n_sub, n_div]
set_option maxHeartbeats 200000 in
theorem w_e2 {w : Nat} (hw : w ≤ 999999999) : nI w / 1000 - nI w / 1000 / 1000 * 1000 = nI (w / 1000 % 1000) := by
  simp (disch := omega) only [k_0, k_1, k_2, k_3, k_4, k_5, k_6, k_7, k_8, k_9, k_10, k_15, k_16, k_18, k_20, k_26, k_27, k_31, k_33, k_46, k_48, k_49, k_51, k_53, k_57, k_60, k_61, k_63, k_64, k_65, k_70, k_71, k_74, k_75, k_80, k_81, k_82, k_83, k_84, k_85, k_98, k_99, k_100, k_102, k_114, k_115, k_119, k_121, k_126, k_200, k_999, k_1000, k_3000, k_9999, k_65537, k_1000000, k_999999999, k_500, n_mul, n_add, n_sub, n_div]
  congr 1; omega
set_option maxHeartbeats 200000 in
theorem w_e3 {w : Nat} (hw : w ≤ 999999999) : nI w - nI w / 1000 * 1000 = nI (w % 1000) := by
  simp (disch := omega) only [k_0, k_1, k_2, k_3, k_4, k_5, k_6, k_7, k_8, k_9, k_10, k_15, k_16, k_18, k_20, k_26, k_27, k_31, k_33, k_46, k_48, k_49, k_51, k_53, k_57, k_60, k_61, k_63, k_64, k_65, k_70, k_71, k_74, k_75, k_80, k_81, k_82, k_83, k_84, k_85, k_98, k_99, k_100, k_102, k_114, k_115, k_119, k_121, k_126, k_200, k_999, k_1000, k_3000, k_9999, k_65537, k_1000000, k_999999999, k_500, n_mul, n_add, n_sub, n_div]
  congr 1; omega
set_option maxHeartbeats 200000 in
theorem pX6_wishDifference {g : Gr} {co : Co} {S : Sta} {D : Day} {set d w : Nat} {Q : Int32 → Gr → Co → Prop} (hR : RG g S D) (hS : WS S) (hD : WD D) (hs : set < 64) (hd : d ≤ 60) (hw : w ≤ 999999999) (h : ∀ co', Q (nI (dfA S D d w set)) g co') : wpX6_wishDifference g co (nI set) (nI d) (nI w) Q := by
  have b0 := wos_le hS.2.1 set 0 6
  have b1 := wos_le hS.2.1 set 1 6
  have b2 := wos_le hS.2.1 set 2 6
  unfold wpX6_wishDifference
  refine pX3_worthOfSet (c := 0) hR hs (by decide) ?_
  refine pX6_seenWith (c := 0) hR hS hD (by decide) hd (by omega) (fun co1 => ?_)
  refine pX3_worthOfSet (c := 1) hR hs (by decide) ?_
  refine pX6_seenWith (c := 1) hR hS hD (by decide) hd (by omega) (fun co2 => ?_)
  refine pX3_worthOfSet (c := 2) hR hs (by decide) ?_
  refine pX6_seenWith (c := 2) hR hS hD (by decide) hd (by omega) (fun co3 => ?_)
  rw [w_e1 hw, w_e2 hw, w_e3 hw, abs_if (fcA_le hD _ _ _) (by omega), abs_if (fcA_le hD _ _ _) (by omega), abs_if (fcA_le hD _ _ _) (by omega), n_add, n_add]
  exact h co3
abbrev subI (n s : Nat) : Prop := (nI n &&& (nI s ^^^ (-1))) = 0
set_option maxHeartbeats 200000 in
theorem sub_le : ∀ n, n < 64 → ∀ s, s < 64 → subI n s → n ≤ s := by decide +kernel
set_option maxHeartbeats 200000 in
theorem sub_0 (s : Nat) : subI 0 s := by
  show nI 0 &&& (nI s ^^^ (-1)) = 0
  exact Int32.zero_and
/-- the least difference, and its set, of the sets below n -/
def wb (S : Sta) (D : Day) (d w set : Nat) : Nat → Nat × Nat
  | 0 => (1000000, 0)
  | n + 1 => if subI n set ∧ dfA S D d w n < (wb S D d w set n).1 then (dfA S D d w n, n) else wb S D d w set n
set_option maxHeartbeats 200000 in
theorem wb_stop {S : Sta} {D : Day} {d w set : Nat} (hs : set < 64) : ∀ n, set + 1 + n ≤ 64 → wb S D d w set (set + 1 + n) = wb S D d w set (set + 1)
  | 0, _ => rfl
  | n + 1, h => by
    show (if subI (set + 1 + n) set ∧ _ then _ else wb S D d w set (set + 1 + n)) = _
    rw [if_neg (fun q => absurd (sub_le _ (by omega) _ hs q.1) (by omega))]
    exact wb_stop hs n (by omega)
set_option maxHeartbeats 200000 in
theorem wb_le {S : Sta} {D : Day} {d w set : Nat} : ∀ n, (wb S D d w set n).1 ≤ 1000000 ∧ (wb S D d w set n).2 ≤ n
  | 0 => ⟨Nat.le_refl _, Nat.le_refl _⟩
  | n + 1 => by
    have ih := wb_le (S := S) (D := D) (d := d) (w := w) (set := set) n
    unfold wb
    split
    · rename_i q
      exact ⟨by show dfA S D d w n ≤ 1000000; omega, Nat.le_succ n⟩
    · exact ⟨ih.1, by omega⟩
def wishA (S : Sta) (D : Day) (p1 p2 p3 p4 : Int32) : Int32 := if inR p1 0 63 then (if inR p2 0 60 ∧ inR p3 0 999999999 ∧ inR p4 0 1 then (if p4 = 0 then nI (wb S D p2.toNatClampNeg p3.toNatClampNeg p1.toNatClampNeg 64).1 else nI (wb S D p2.toNatClampNeg p3.toNatClampNeg p1.toNatClampNeg 64).2) else -2) else -1
set_option maxHeartbeats 200000 in
theorem pX6_wish {g : Gr} {co : Co} {S : Sta} {D : Day} {p1 p2 p3 p4 : Int32} {Q : Int32 → Gr → Co → Prop} (hR : RG g S D) (hS : WS S) (hD : WD D) (h : ∀ co', Q (wishA S D p1 p2 p3 p4) g co') : wpX6_wish g co p1 p2 p3 p4 Q := by
  unfold wishA at h
  unfold wpX6_wish
  refine ck2X6_isSet (fun c1 => ?_) (fun c1 => ?_)
  · rw [if_pos c1] at h
    refine ck1X6_isAhead (fun c2 => ?_) (fun c2 => ?_)
    · rw [if_neg (fun q => c2 q.1)] at h; exact h co
    refine ck1X6_isWithin (fun c3 => ?_) (fun c3 => ?_)
    · rw [if_neg (fun q => c3 q.2.1)] at h; exact h co
    refine ck2X6_isWithin (fun c4 => ?_) (fun c4 => ?_)
    · rw [if_pos ⟨c2, c3, c4⟩] at h
      obtain ⟨set, hset, rfl⟩ := inR_nI (n := 63) (by decide) c1
      obtain ⟨d, hd, rfl⟩ := inR_nI (n := 60) (by decide) c2
      obtain ⟨w, hw, rfl⟩ := inR_nI (n := 999999999) (by decide) c3
      rw [nI_clamp (show set < 2 ^ 31 by omega), nI_clamp (show d < 2 ^ 31 by omega), nI_clamp (show w < 2 ^ 31 by omega)] at h
      have e64 : wb S D d w set 64 = wb S D d w set (set + 1) := by
        have e := wb_stop (S := S) (D := D) (d := d) (w := w) (set := set) (by omega) (63 - set) (by omega)
        have e2 : set + 1 + (63 - set) = 64 := by omega
        rw [e2] at e; exact e
      rw [e64] at h
      refine pX6_wishDifference (set := 0) hR hS hD (by decide) hd hw (fun co1 => ?_)
      have e1 : wb S D d w set 1 = (dfA S D d w 0, 0) := by
        show (if subI 0 set ∧ dfA S D d w 0 < 1000000 then _ else _) = _
        have hb := dfA_le (S := S) hD (d := d) (set := 0) hw
        rw [if_pos ⟨sub_0 set, by omega⟩]
      have key : ∀ i, i ≤ set → ∃ n, ∀ co : Co, wpX6_wish_L54 Q n g co (nI set) (nI d) (nI w) p4 (nI (wb S D d w set (i + 1)).2) (nI (wb S D d w set (i + 1)).1) (nI (i + 1)) := by
        refine up_loop set (fun n => ?_) (fun n i hi ih => ?_)
        · intro co
          show wpX6_wish_H54 Q _ _ _ _ _ _ _ _ _ _
          unfold wpX6_wish_H54
          refine br_t (nI_lt (by omega) (by omega)) (bn_c (fun q => ?_) (fun q => ?_))
          · rw [if_neg q] at h; exact h co
          · rw [if_pos q] at h; exact h co
        · intro co
          show wpX6_wish_H54 Q _ _ _ _ _ _ _ _ _ _
          unfold wpX6_wish_H54
          refine br_f (nI_nlt (by omega) (by omega)) ?_
          have e : wb S D d w set (i + 1 + 1) = if subI (i + 1) set ∧ dfA S D d w (i + 1) < (wb S D d w set (i + 1)).1 then (dfA S D d w (i + 1), i + 1) else wb S D d w set (i + 1) := rfl
          rw [e] at ih
          have hl := wb_le (S := S) (D := D) (d := d) (w := w) (set := set) (i + 1)
          have hb := dfA_le (S := S) hD (d := d) (set := i + 1) hw
          unfold wpX6_wish_B94
          refine bn_c (fun q => ?_) (fun q => ?_)
          · rw [if_neg (fun r => q r.1)] at ih
            exact nm_r (nI_1 _) (ih co)
          · refine pX6_wishDifference hR hS hD (by omega) hd hw (fun co2 => ?_)
            refine pk_le (wb S D d w set (i + 1)).1 (dfA S D d w (i + 1)) (fun q2 => ?_) (fun q2 => ?_)
            · rw [if_neg (fun r => absurd r.2 (by omega))] at ih
              exact nm_r (nI_1 _) (ih co2)
            · rw [if_pos ⟨q, q2⟩] at ih
              exact nm_r (nI_1 _) (ih co2)
      obtain ⟨n, hn⟩ := key 0 (Nat.zero_le _)
      have hn2 := hn co1
      rw [e1] at hn2
      exact ⟨n, hn2⟩
    · rw [if_neg (fun q => c4 q.2.2)] at h; exact h co
  · rw [if_neg c1] at h; exact h co
set_option maxHeartbeats 200000 in
theorem pX7_wish {m : Mo} {S : Sta} {D : Day} {sg : Nat → Nat} {cnt : Nat} {I J : Nat → Int32} {p1 p2 p3 p4 : Int32} {Q : Int32 → Mo → Prop} (hR : RMo m S D sg cnt I J) (hS : WS S) (hD : WD D) (hy : zdy D ≤ 99) (hsh : ∀ j, zsh D j ≤ 999) (h : ∀ m', FX m m' → Q (wishA S D p1 p2 p3 p4) m') : wpX7_wish m p1 p2 p3 p4 Q := by
  unfold wishA at h
  unfold wpX7_wish
  refine ck2X7_in (fun c1 => ?_) (fun c1 => ?_)
  · rw [if_pos c1] at h
    refine ck1X7_isDay (fun c2 => ?_) (fun c2 => ?_)
    · rw [if_neg (fun q => c2 q.1)] at h; exact h m FX.rf
    refine ck1X7_in (fun c3 => ?_) (fun c3 => ?_)
    · rw [if_neg (fun q => c3 q.2.1)] at h; exact h m FX.rf
    refine ck2X7_in (fun c4 => ?_) (fun c4 => ?_)
    · rw [if_pos ⟨c2, c3, c4⟩] at h
      obtain ⟨set, hset, rfl⟩ := inR_nI (n := 63) (by decide) c1
      obtain ⟨d, hd, rfl⟩ := inR_nI (n := 60) (by decide) c2
      obtain ⟨w, hw, rfl⟩ := inR_nI (n := 999999999) (by decide) c3
      rw [nI_clamp (show set < 2 ^ 31 by omega), nI_clamp (show d < 2 ^ 31 by omega), nI_clamp (show w < 2 ^ 31 by omega)] at h
      have key : ∀ i, i ≤ 64 → ∃ n, ∀ m' : Mo, FN m m' → wpX7_wish_L52 Q n m' (nI set) (nI d) (nI w) p4 (nI (wb S D d w set i).2) (nI (wb S D d w set i).1) (nI i) := by
        refine up_loop 64 (fun n => ?_) (fun n i hi ih => ?_)
        · intro m' hF
          show wpX7_wish_H52 Q _ _ _ _ _ _ _ _ _
          unfold wpX7_wish_H52
          refine br_t (nI_le (by decide) (by decide)) (bn_c (fun q => ?_) (fun q => ?_))
          · rw [if_neg q] at h; exact h m' hF.X
          · rw [if_pos q] at h; exact h m' hF.X
        · intro m' hF
          show wpX7_wish_H52 Q _ _ _ _ _ _ _ _ _
          unfold wpX7_wish_H52
          refine br_f (nI_ge hi (by decide)) ?_
          have e : wb S D d w set (i + 1) = if subI i set ∧ dfA S D d w i < (wb S D d w set i).1 then (dfA S D d w i, i) else wb S D d w set i := rfl
          rw [e] at ih
          have hl := wb_le (S := S) (D := D) (d := d) (w := w) (set := set) i
          have hb := dfA_le (S := S) hD (d := d) (set := i) hw
          refine bn_c (fun q => ?_) (fun q => ?_)
          · rw [if_neg (fun r => q r.1)] at ih
            unfold wpX7_wish_B187
            exact nm_r (nI_1 _) (ih m' hF)
          · refine pX7_asNow (hF.P hR.2.1) (fun m1 hF1 hN1 => ?_)
            have hFa := hF.trans hF1
            let NN : Nat → Day := fun k => (fun c => zsh D c + wos (zds S) i c k, D.2)
            have hNN : ∀ k, k ≤ 6 → WD (NN k) := fun k hk => ⟨fun c => by
              show zsh D c + wos (zds S) i c k ≤ 99999
              have h1 := hsh c
              have h2 := wos_le hS.2.1 i c k
              omega, hD.2⟩
            have key2 : ∀ k, k ≤ 6 → ∃ n2, ∀ m2 : Mo, FN m m2 → RN m2 (NN k) → wpX7_wish_L75 Q (wpX7_wish_L52 Q n) n2 m2 (nI set) (nI d) (nI w) p4 (nI (wb S D d w set i).2) (nI (wb S D d w set i).1) (nI i) (nI k) := by
              refine up_loop 6 (fun n2 => ?_) (fun n2 k hk ih2 => ?_)
              · intro m2 hF2 hN2
                show wpX7_wish_H75 Q _ _ _ _ _ _ _ _ _ _ _
                unfold wpX7_wish_H75
                refine br_t (nI_le (by decide) (by decide)) ?_
                refine pX7_waits (hF2.S hR.1) hN2 hS (hNN 6 (by decide)) (by omega) (show zdy D + d ≤ 1000 by omega) (fun m3 hF3 hN3 => ?_)
                have hFb := hF2.trans hF3
                have hW := waitA_WD (off := zoff S) (hNN 6 (by decide)) d (show zdy D + d ≤ 1000 by omega)
                have es : ∀ c, seeA (zoff S) (waitA (zoff S) d (NN 6)) c 0 = fcA (zoff S) D c d (wos (zds S) i c 6) := fun c => see_wait hS.1 d rfl rfl
                rw [w_e1 hw, w_e2 hw, w_e3 hw]
                refine pX7_see (c := 0) (hFb.S hR.1) hN3 hS hW (by decide) ?_
                rw [es]
                refine pX7_apartBy (fcA_le hD _ _ _) (by omega) ?_
                refine pX7_see (c := 1) (hFb.S hR.1) hN3 hS hW (by decide) ?_
                rw [es]
                refine pX7_apartBy (fcA_le hD _ _ _) (by omega) ?_
                refine pX7_see (c := 2) (hFb.S hR.1) hN3 hS hW (by decide) ?_
                rw [es]
                refine pX7_apartBy (fcA_le hD _ _ _) (by omega) ?_
                rw [n_add, n_add]
                refine nm_e ?_
                unfold wpX7_wish_B169 wpX7_wish_B185 wpX7_wish_B187
                refine pk_le (wb S D d w set i).1 (dfA S D d w i) (fun q2 => ?_) (fun q2 => ?_)
                · rw [if_neg (fun r => absurd r.2 (by omega))] at ih
                  exact br_t (nI_le (b := dfA S D d w i) q2 (by omega)) (nm_r (nI_1 _) (ih m3 hFb))
                · rw [if_pos ⟨q, q2⟩] at ih
                  exact br_f (nI_ge q2 (by omega)) (nm_r (nI_1 _) (ih m3 hFb))
              · intro m2 hF2 hN2
                show wpX7_wish_H75 Q _ _ _ _ _ _ _ _ _ _ _
                unfold wpX7_wish_H75 wpX7_wish_B98
                refine br_f (nI_ge hk (by decide)) ?_
                refine pX7_has (by omega) (by omega) (fun q2 => br_f one_ne ?_) (fun q2 => br_t rfl ?_)
                · refine pX7_wear (hF2.S hR.1) hN2 hk (fun m3 hF3 hN3 => nm_r (nI_1 k) (ih2 m3 (hF2.trans hF3) ?_))
                  have e5 : wearA (zds S) k (NN k) = NN (k + 1) := by
                    refine Prod.ext (funext fun c => ?_) rfl
                    show zsh D c + wos (zds S) i c k + zds S (3 * k + c) = zsh D c + (wos (zds S) i c k + (if hasN i k then zds S (3 * k + c) else 0))
                    rw [if_pos q2]
                    omega
                  rw [← e5]; exact hN3
                · refine nm_r (nI_1 k) (ih2 m2 hF2 ?_)
                  have e5 : NN k = NN (k + 1) := by
                    refine Prod.ext (funext fun c => ?_) rfl
                    show zsh D c + wos (zds S) i c k = zsh D c + (wos (zds S) i c k + (if hasN i k then zds S (3 * k + c) else 0))
                    rw [if_neg q2]
                    rfl
                  rw [← e5]; exact hN2
            obtain ⟨n2, hn2⟩ := key2 0 (by decide)
            exact ⟨n2, hn2 m1 hFa hN1⟩
      obtain ⟨n, hn⟩ := key 0 (by decide)
      exact ⟨n, hn m FN.rf⟩
    · rw [if_neg (fun q => c4 q.2.2)] at h; exact h m FX.rf
  · rw [if_neg c1] at h; exact h m FX.rf
