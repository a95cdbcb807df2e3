/-! turns: the model's walk -/
def wrA (S : Sta) (D : Day) (T : Nat) (k : Nat) : Day := (fun c => zsh D c + wos (zds S) T c k, D.2)
set_option maxHeartbeats 200000 in
theorem wrA_see {S : Sta} {D : Day} {T k c : Nat} : seeA (zoff S) (wrA S D T k) c 0 = seeA (zoff S) D c (wos (zds S) T c k) := by
  unfold seeA
  show cap (zsh D c + wos (zds S) T c k + 0 + _) = _
  rw [Nat.add_zero]
  rfl
set_option maxHeartbeats 200000 in
theorem wrA_WD {S : Sta} {D : Day} {T k : Nat} (hS : WS S) (hE : WE D) (hk : k ≤ 6) : WD (wrA S D T k) := by
  refine ⟨fun j => ?_, hE.1.2⟩
  have h1 := hE.2.2 j
  have h2 := wos_le2 (T := T) (c := j) hS.2.1 k
  show zsh D j + wos (zds S) T j k ≤ 99999
  omega
set_option maxHeartbeats 200000 in
theorem pX7_isOverBy {m : Mo} {S : Sta} {D : Day} {sg : Nat → Nat} {cnt : Nat} {I J : Nat → Int32} {T : Nat} {Q : Int32 → Mo → Prop} (hR : RMo m S D sg cnt I J) (hS : WS S) (hE : WE D) (hT : T < 64) (h1 : loA S D T → ∀ m', FN m m' → Q 1 m') (h0 : ¬ loA S D T → ∀ m', FN m m' → Q 0 m') : wpX7_isOverBy m (nI T) Q := by
  unfold wpX7_isOverBy
  refine pX7_asNow hR.2.1 (fun m1 hF1 hN1 => ?_)
  have key : ∀ k, k ≤ 6 → ∃ n, ∀ m2 : Mo, FN m m2 → RN m2 (wrA S D T k) → wpX7_isOverBy_L6 Q n m2 (nI T) (nI k) := by
    refine up_loop 6 (fun n => ?_) (fun n k hk ih => ?_)
    · intro m2 hF hN
      show wpX7_isOverBy_H6 Q _ _ _ _
      unfold wpX7_isOverBy_H6
      have e : overA (zoff S) (zlim S) (wrA S D T 6) ↔ loA S D T := by
        unfold overA loA
        rw [wrA_see, wrA_see, wrA_see]
      exact br_t (by decide) (pX7_isOver (hF.S hR.1) hN hS (wrA_WD hS hE (by decide)) (fun q => ⟨Or.inr rfl, h1 (e.mp q) m2 hF⟩) (fun q => ⟨Or.inl rfl, h0 (fun w => q (e.mpr w)) m2 hF⟩))
    · intro m2 hF hN
      show wpX7_isOverBy_H6 Q _ _ _ _
      unfold wpX7_isOverBy_H6
      refine br_f (nI_ge hk (by decide)) (pX7_has (by omega) (by omega) (fun q => br_f one_ne ?_) (fun q => br_t rfl ?_))
      · refine pX7_wear (hF.S hR.1) hN hk (fun m3 hF3 hN3 => ?_)
        unfold wpX7_isOverBy_B25
        refine nm_r (nI_1 k) (ih m3 (hF.trans hF3) ?_)
        have e : wearA (zds S) k (wrA S D T k) = wrA S D T (k + 1) := by
          show ((fun c => zsh D c + wos (zds S) T c k + zds S (3 * k + c)), D.2) = ((fun c => zsh D c + (wos (zds S) T c k + (if hasN T k then zds S (3 * k + c) else 0))), D.2)
          congr 1
          funext c
          rw [if_pos q, Nat.add_assoc]
        rw [e] at hN3
        exact hN3
      · unfold wpX7_isOverBy_B25
        refine nm_r (nI_1 k) (ih m2 hF ?_)
        have e : wrA S D T k = wrA S D T (k + 1) := by
          show ((fun c => zsh D c + wos (zds S) T c k), D.2) = ((fun c => zsh D c + (wos (zds S) T c k + (if hasN T k then zds S (3 * k + c) else 0))), D.2)
          congr 1
          funext c
          rw [if_neg q, Nat.add_zero]
        rw [← e]
        exact hN
  obtain ⟨n, hn⟩ := key 0 (by decide)
  exact ⟨n, hn m1 hF1 hN1⟩
