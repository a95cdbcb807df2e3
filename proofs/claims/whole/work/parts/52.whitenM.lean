set_option maxHeartbeats 200000 in
theorem oI_neg {o : Option Nat} (h : ∀ s, o = some s → s < 2147483648) : (oI o < 0 ↔ o = none) := by
  cases o with
  | none => exact ⟨fun _ => rfl, fun _ => by show (-6 : Int32) < 0; decide⟩
  | some s => exact ⟨fun q => absurd q (nI_pos (h s rfl)), fun q => by cases q⟩
set_option maxHeartbeats 200000 in
theorem pX7_whiten {m : Mo} {S : Sta} {D : Day} {sg : Nat → Nat} {cnt : Nat} {I J : Nat → Int32} {p1 p2 p3 : Int32} {Q : Int32 → Mo → Prop} (hR : RMo m S D sg cnt I J) (hS : WS S) (hD : WD D) (hy : zdy D ≤ 99) (h : ∀ m', FX m m' → Q (whitenA (zoff S) D p1 p2 p3) m') : wpX7_whiten m p1 p2 p3 Q := by
  unfold whitenA at h
  unfold wpX7_whiten
  refine ck1X7_isDay (fun c1 => ?_) (fun c1 => ?_)
  · rw [if_neg (fun q => c1 q.1)] at h; exact h m FX.rf
  refine ck1X7_in (fun c2 => ?_) (fun c2 => ?_)
  · rw [if_neg (fun q => c2 q.2.1)] at h; exact h m FX.rf
  refine ck2X7_in (fun c3 => ?_) (fun c3 => ?_)
  · rw [if_pos ⟨c1, c2, c3⟩] at h
    obtain ⟨d, hd, rfl⟩ := inR_nI (n := 60) (by decide) c1
    obtain ⟨v, hv, rfl⟩ := inR_nI (n := 999) (by decide) c2
    rw [nI_clamp (show d < 2 ^ 31 by omega), nI_clamp (show v < 2 ^ 31 by omega)] at h
    -- one set looked at: from B62 on, the next set with what is found then
    have look : ∀ i, i < 16 → ∀ n, ∀ o : Int32, (∀ m', FN m m' → (fadeP (zoff S) D d v i → wpX7_whiten_L37 Q n m' (nI d) (nI v) p3 (nI i) (nI (i + 1))) ∧ (¬ fadeP (zoff S) D d v i → wpX7_whiten_L37 Q n m' (nI d) (nI v) p3 o (nI (i + 1)))) → ∀ m', FN m m' → wpX7_whiten_B62 Q (wpX7_whiten_L37 Q n) m' (nI d) (nI v) p3 o (nI i) := by
      intro i hi n o hnext m' hF
      unfold wpX7_whiten_B62
      refine pX7_asNow (hF.P hR.2.1) (fun m1 hF1 hN1 => ?_)
      have hFa := hF.trans hF1
      have hD2 := whD_WD hD i
      let f : Nat → Nat → Nat := fun c e => fcA (zoff S) (whD D i) c e 0
      have hf : ∀ c e, f c e ≤ 999 := fun c e => fcA_le hD2 c e 0
      let C : Nat → Prop := fun k => mxF (f 0) d k ≤ v ∧ mxF (f 1) d k ≤ v ∧ mxF (f 2) d k ≤ v
      have days : ∀ m2, FN m m2 → RN m2 (whD D i) → ∃ n1, wpX7_whiten_L115 Q (wpX7_whiten_L37 Q n) n1 m2 (nI d) (nI v) p3 o (nI i) (nI 1) (nI 0) := by
        intro m2 hF2 hN2
        have key : ∀ k, k ≤ 61 → ∃ n1, ∀ (b : Nat) (m3 : Mo), ((b = 1 ∧ C k) ∨ (b = 0 ∧ ¬ C k)) → FN m m3 → RN m3 (waitA (zoff S) k (whD D i)) → wpX7_whiten_L115 Q (wpX7_whiten_L37 Q n) n1 m3 (nI d) (nI v) p3 o (nI i) (nI b) (nI k) := by
          refine up_loop 61 (fun n1 => ?_) (fun n1 k hk ih => ?_)
          · intro b m3 hb hF3 hN3
            show wpX7_whiten_H115 Q _ _ _ _ _ _ _ _ _ _
            unfold wpX7_whiten_H115 wpX7_whiten_B189 wpX7_whiten_B191
            refine br_t (nI_le (by decide) (by decide)) ?_
            rcases hb with ⟨rfl, hc⟩ | ⟨rfl, hc⟩
            · exact br_f (show ¬ nI 1 = 0 by decide) (nm_r (nI_1 i) ((hnext m3 hF3).1 hc))
            · exact br_t rfl (nm_r (nI_1 i) ((hnext m3 hF3).2 hc))
          · intro b m3 hb hF3 hN3
            show wpX7_whiten_H115 Q _ _ _ _ _ _ _ _ _ _
            unfold wpX7_whiten_H115
            have hyk : zdy (whD D i) + k ≤ 1000 := by
              show zdy D + k ≤ 1000
              omega
            have hW := waitA_WD (off := zoff S) hD2 k hyk
            have goB : ∀ b2 : Nat, ((b2 = 1 ∧ C (k + 1)) ∨ (b2 = 0 ∧ ¬ C (k + 1))) → wpX7_whiten_B165 Q (wpX7_whiten_L37 Q n) (wpX7_whiten_L115 Q (wpX7_whiten_L37 Q n) n1) m3 (nI d) (nI v) p3 o (nI i) (nI k) (nI b2) := by
              intro b2 hb2
              unfold wpX7_whiten_B165
              refine pX7_pass (hF3.S hR.1) hN3 hS hW (fun m4 hF4 hN4 => nm_r (nI_1 k) ?_)
              exact ih b2 m4 hb2 (hF3.trans hF4) hN4
            have mx1 : ∀ c, mxF (f c) d (k + 1) = if d ≤ k then max (mxF (f c) d k) (f c k) else mxF (f c) d k := fun c => rfl
            have hno : ∀ c, c < 3 → ¬ mxF (f c) d (k + 1) ≤ v → wpX7_whiten_B164 Q (wpX7_whiten_L37 Q n) (wpX7_whiten_L115 Q (wpX7_whiten_L37 Q n) n1) m3 (nI d) (nI v) p3 o (nI i) (nI k) := by
              intro c hc hq
              unfold wpX7_whiten_B164
              refine goB 0 (Or.inr ⟨rfl, fun w => hq ?_⟩)
              rcases (show c = 0 ∨ c = 1 ∨ c = 2 by omega) with rfl | rfl | rfl
              · exact w.1
              · exact w.2.1
              · exact w.2.2
            have es : ∀ c, seeA (zoff S) (waitA (zoff S) k (whD D i)) c 0 = f c k := fun c => see_wait (mo := 0) hS.1 k rfl rfl
            refine br_f (nI_ge hk (by decide)) ?_
            rcases hb with ⟨rfl, hc⟩ | ⟨rfl, hc⟩
            · refine br_f (show ¬ nI 1 = 0 by decide) ?_
              refine pk_lt k d (fun q => ?_) (fun q => ?_)
              · unfold wpX7_whiten_B160
                refine goB 1 (Or.inl ⟨rfl, ?_⟩)
                show mxF (f 0) d (k + 1) ≤ v ∧ mxF (f 1) d (k + 1) ≤ v ∧ mxF (f 2) d (k + 1) ≤ v
                rw [mx1, mx1, mx1, if_neg (by omega), if_neg (by omega), if_neg (by omega)]
                exact hc
              · have g0 := hf 0 k
                have g1 := hf 1 k
                have g2 := hf 2 k
                refine pX7_see (c := 0) (hF3.S hR.1) hN3 hS hW (by decide) ?_
                rw [es]
                refine pk_lt v (f 0 k) (fun w => hno 0 (by decide) (by rw [mx1, if_pos q]; omega)) (fun w0 => ?_)
                refine pX7_see (c := 1) (hF3.S hR.1) hN3 hS hW (by decide) ?_
                rw [es]
                refine pk_lt v (f 1 k) (fun w => hno 1 (by decide) (by rw [mx1, if_pos q]; omega)) (fun w1 => ?_)
                refine pX7_see (c := 2) (hF3.S hR.1) hN3 hS hW (by decide) ?_
                rw [es]
                refine pk_lt v (f 2 k) (fun w => hno 2 (by decide) (by rw [mx1, if_pos q]; omega)) (fun w2 => ?_)
                unfold wpX7_whiten_B160
                refine goB 1 (Or.inl ⟨rfl, ?_⟩)
                have hc0 : mxF (f 0) d k ≤ v := hc.1
                have hc1 : mxF (f 1) d k ≤ v := hc.2.1
                have hc2 : mxF (f 2) d k ≤ v := hc.2.2
                show mxF (f 0) d (k + 1) ≤ v ∧ mxF (f 1) d (k + 1) ≤ v ∧ mxF (f 2) d (k + 1) ≤ v
                rw [mx1, mx1, mx1, if_pos q, if_pos q, if_pos q]
                omega
            · refine br_t rfl ?_
              unfold wpX7_whiten_B164
              refine goB 0 (Or.inr ⟨rfl, fun w => hc ?_⟩)
              have w0 : mxF (f 0) d (k + 1) ≤ v := w.1
              have w1 : mxF (f 1) d (k + 1) ≤ v := w.2.1
              have w2 : mxF (f 2) d (k + 1) ≤ v := w.2.2
              rw [mx1] at w0 w1 w2
              show mxF (f 0) d k ≤ v ∧ mxF (f 1) d k ≤ v ∧ mxF (f 2) d k ≤ v
              by_cases q : d ≤ k
              · rw [if_pos q] at w0 w1 w2
                omega
              · rw [if_neg q] at w0 w1 w2
                exact ⟨w0, w1, w2⟩
        obtain ⟨n1, hn1⟩ := key 0 (by decide)
        exact ⟨n1, hn1 1 m2 (Or.inl ⟨rfl, Nat.zero_le _, Nat.zero_le _, Nat.zero_le _⟩) hF2 hN2⟩
      have walls : ∀ w, w ≤ 4 → ∃ n1, ∀ m2 : Mo, FN m m2 → RN m2 (zsh D, ztn D, fun x => if x < w ∧ hasN i x then 0 else zkp D x, D.2.2.2) → wpX7_whiten_L69 Q (wpX7_whiten_L37 Q n) n1 m2 (nI d) (nI v) p3 o (nI i) (nI w) := by
        refine up_loop 4 (fun n1 => ?_) (fun n1 w hw ih => ?_)
        · intro m2 hF2 hN2
          show wpX7_whiten_H69 Q _ _ _ _ _ _ _ _ _
          unfold wpX7_whiten_H69
          refine br_t (nI_le (by decide) (by decide)) (days m2 hF2 ?_)
          obtain ⟨r1, r2, r3, r4⟩ := hN2
          refine ⟨r1, r2, aI_cg r3 (fun j hj => ?_), r4⟩
          show (if j < 4 ∧ hasN i j then 0 else zkp D j) = (if hasN i j then 0 else zkp D j)
          by_cases q : hasN i j
          · rw [if_pos ⟨hj, q⟩, if_pos q]
          · rw [if_neg (fun x => q x.2), if_neg q]
        · intro m2 hF2 hN2
          show wpX7_whiten_H69 Q _ _ _ _ _ _ _ _ _
          unfold wpX7_whiten_H69 wpX7_whiten_B102
          refine br_f (nI_ge hw (by decide)) ?_
          obtain ⟨r1, r2, r3, r4⟩ := hN2
          refine pX7_has (by omega) (by omega) (fun q => br_f one_ne ⟨vp_in_nI hw (by decide), nm_r (nI_1 w) ?_⟩) (fun q => br_t rfl ⟨vp_in_nI hw (by decide), vp_in_nI hw (by decide), nm_r (nI_1 w) ?_⟩)
          · refine ih _ (hF2.keep _) ⟨r1, r2, aI_cg (aI_up (v := 0) r3) (fun j hj => ?_), r4⟩
            show (if j = w then 0 else if j < w ∧ hasN i j then 0 else zkp D j) = (if j < w + 1 ∧ hasN i j then 0 else zkp D j)
            by_cases q1 : j = w
            · subst q1
              rw [if_pos rfl, if_pos ⟨by omega, q⟩]
            · rw [if_neg q1]
              by_cases q2 : j < w ∧ hasN i j
              · rw [if_pos q2, if_pos ⟨by omega, q2.2⟩]
              · rw [if_neg q2, if_neg (fun x => q2 ⟨by omega, x.2⟩)]
          · rw [aI_rd r3 hw]
            refine ih _ (hF2.keep _) ⟨r1, r2, aI_cg (aI_up r3) (fun j hj => ?_), r4⟩
            show (if j = w then (if w < w ∧ hasN i w then 0 else zkp D w) else if j < w ∧ hasN i j then 0 else zkp D j) = (if j < w + 1 ∧ hasN i j then 0 else zkp D j)
            by_cases q1 : j = w
            · subst q1
              rw [if_pos rfl, if_neg (fun x => q x.2), if_neg (fun x => q x.2)]
            · rw [if_neg q1]
              by_cases q2 : j < w ∧ hasN i j
              · rw [if_pos q2, if_pos ⟨by omega, q2.2⟩]
              · rw [if_neg q2, if_neg (fun x => q2 ⟨by omega, x.2⟩)]
      obtain ⟨n1, hn1⟩ := walls 0 (by decide)
      refine ⟨n1, hn1 m1 hFa ?_⟩
      obtain ⟨r1, r2, r3, r4⟩ := hN1
      refine ⟨r1, r2, aI_cg r3 (fun j hj => ?_), r4⟩
      show _ = (if j < 0 ∧ hasN i j then 0 else zkp D j)
      rw [if_neg (fun x => absurd x.1 (Nat.not_lt_zero j))]
    have key : ∀ i, i ≤ 16 → ∃ n, ∀ m' : Mo, FN m m' → wpX7_whiten_L37 Q n m' (nI d) (nI v) p3 (oI (wtA (zoff S) D d v i).1) (nI i) := by
      refine up_loop 16 (fun n => ?_) (fun n i hi ih => ?_)
      · intro m' hF
        show wpX7_whiten_H37 Q _ _ _ _ _ _ _
        unfold wpX7_whiten_H37
        refine br_t (nI_le (by decide) (by decide)) ?_
        rcases wtA_is (off := zoff S) (D := D) (d := d) (v := v) 16 with e | ⟨x, hx, e⟩
        · rw [e] at h ⊢
          exact br_t (show (-6 : Int32) < 0 by decide) (h m' hF.X)
        · rw [e] at h ⊢
          have h2 : Q (if p3 = 0 then nI (bitsN x) else nI x) m' := h m' hF.X
          refine br_f (nI_pos (n := x) (by omega)) (bn_c (fun q => ?_) (fun q => ?_))
          · rcases in01 c3 with w | w
            · rw [if_pos w] at h2
              exact pX7_bits (s := x) hx h2
            · exact absurd w q
          · rw [if_neg (by rw [q]; decide)] at h2; exact h2
      · intro m' hF
        show wpX7_whiten_H37 Q _ _ _ _ _ _ _
        unfold wpX7_whiten_H37
        have b1 := bitsN_le i
        refine br_f (nI_ge hi (by decide)) ?_
        rcases wtA_is (off := zoff S) (D := D) (d := d) (v := v) i with e | ⟨x, hx, e⟩
        · have e2 : (wtA (zoff S) D d v i).2 = 5 := by rw [e]
          refine br_t (by rw [e]; show (-6 : Int32) < 0; decide) (look i hi n _ (fun m2 hF2 => ⟨fun w => ?_, fun w => ?_⟩) m' hF)
          · have ih2 := ih m2 hF2
            rw [wtA_pos ⟨by omega, w⟩] at ih2
            exact ih2
          · have ih2 := ih m2 hF2
            rw [wtA_neg (fun x => w x.2)] at ih2
            exact ih2
        · have e2 : (wtA (zoff S) D d v i).2 = bitsN x := by rw [e]
          have e3 : oI (wtA (zoff S) D d v i).1 = nI x := by rw [e]; rfl
          have b2 := bitsN_le x
          rw [e3]
          refine br_f (nI_pos (n := x) (by omega)) ?_
          refine pX7_bits hi ?_
          refine pX7_bits (s := x) (by omega) ?_
          refine pk_le (bitsN x) (bitsN i) (fun q => ?_) (fun q => ?_)
          · unfold wpX7_whiten_B191
            have ih2 := ih m' hF
            rw [wtA_neg (fun y => absurd y.1 (by omega)), e3] at ih2
            exact nm_r (nI_1 i) ih2
          · refine look i hi n _ (fun m2 hF2 => ⟨fun w => ?_, fun w => ?_⟩) m' hF
            · have ih2 := ih m2 hF2
              rw [wtA_pos ⟨by omega, w⟩] at ih2
              exact ih2
            · have ih2 := ih m2 hF2
              rw [wtA_neg (fun x => w x.2), e3] at ih2
              exact ih2
    obtain ⟨n, hn⟩ := key 0 (by decide)
    exact ⟨n, hn m FN.rf⟩
  · rw [if_neg (fun q => c3 q.2.2)] at h; exact h m FX.rf
