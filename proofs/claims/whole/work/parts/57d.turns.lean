/-! turns: the model's side -/
/-- falling fold: dresses 5 down to 6 - j -/
def g6A (S : Sta) (D : Day) (F : Nat) (tb : Nat → Int32 × Int32) (L : Nat) : Nat → Int32 × Int32
  | 0 => (-2, -6)
  | j + 1 => if hasN L (5 - j) ∧ (g6A S D F tb L j).1 ≤ caA S D F tb L (5 - j) then (caA S D F tb L (5 - j), nI (5 - j)) else g6A S D F tb L j
set_option maxHeartbeats 200000 in
theorem i32_tot {a b : Int32} (h : ¬ a ≤ b) : b ≤ a := by
  rw [Int32.le_iff_toInt_le] at h ⊢
  omega
set_option maxHeartbeats 200000 in
/-- both folds find the same -/
theorem fg_6 {S : Sta} {D : Day} {F : Nat} {tb : Nat → Int32 × Int32} {L : Nat} : ∀ j, j ≤ 6 → f6A S D F tb L 6 = if (g6A S D F tb L j).1 ≤ (f6A S D F tb L (6 - j)).1 then f6A S D F tb L (6 - j) else g6A S D F tb L j := by
  have lo : ∀ k, -1 ≤ (f6A S D F tb L k).1 := by
    intro k
    induction k with
    | zero => exact (by decide : (-1 : Int32) ≤ -1)
    | succ k ih =>
      show -1 ≤ (if hasN L k ∧ ¬ caA S D F tb L k ≤ (f6A S D F tb L k).1 then (caA S D F tb L k, nI k) else f6A S D F tb L k).1
      by_cases q : hasN L k ∧ ¬ caA S D F tb L k ≤ (f6A S D F tb L k).1
      · rw [if_pos q]
        have := i32_tot q.2
        rw [Int32.le_iff_toInt_le] at this ih ⊢
        exact Int.le_trans ih this
      · rw [if_neg q]; exact ih
  intro j
  induction j with
  | zero =>
    intro _
    have w := lo 6
    have : (-2 : Int32) ≤ (f6A S D F tb L 6).1 := by
      rw [Int32.le_iff_toInt_le] at w ⊢
      exact Int.le_trans (by decide) w
    show _ = if (-2 : Int32) ≤ (f6A S D F tb L 6).1 then _ else _
    rw [if_pos this]
  | succ j ih =>
    intro hj
    have e := ih (by omega)
    rw [e]
    have e6 : 6 - j = (5 - j) + 1 := by omega
    have e5 : 6 - (j + 1) = 5 - j := by omega
    rw [e6, e5]
    show (if _ ≤ (if hasN L (5 - j) ∧ ¬ caA S D F tb L (5 - j) ≤ (f6A S D F tb L (5 - j)).1 then (caA S D F tb L (5 - j), nI (5 - j)) else f6A S D F tb L (5 - j)).1 then (if hasN L (5 - j) ∧ ¬ caA S D F tb L (5 - j) ≤ (f6A S D F tb L (5 - j)).1 then (caA S D F tb L (5 - j), nI (5 - j)) else f6A S D F tb L (5 - j)) else _) = if (if hasN L (5 - j) ∧ (g6A S D F tb L j).1 ≤ caA S D F tb L (5 - j) then (caA S D F tb L (5 - j), nI (5 - j)) else g6A S D F tb L j).1 ≤ _ then _ else (if hasN L (5 - j) ∧ (g6A S D F tb L j).1 ≤ caA S D F tb L (5 - j) then (caA S D F tb L (5 - j), nI (5 - j)) else g6A S D F tb L j)
    generalize caA S D F tb L (5 - j) = c
    generalize f6A S D F tb L (5 - j) = f
    generalize g6A S D F tb L j = g
    by_cases q : hasN L (5 - j)
    · by_cases q1 : c ≤ f.1
      · rw [if_neg (show ¬ (hasN L (5 - j) ∧ ¬ c ≤ f.1) from fun u => u.2 q1)]
        by_cases q2 : g.1 ≤ c
        · rw [if_pos (show hasN L (5 - j) ∧ g.1 ≤ c from ⟨q, q2⟩)]
          have t : g.1 ≤ f.1 := by
            rw [Int32.le_iff_toInt_le] at q1 q2 ⊢
            exact Int.le_trans q2 q1
          rw [if_pos t, if_pos q1]
        · rw [if_neg (show ¬ (hasN L (5 - j) ∧ g.1 ≤ c) from fun u => q2 u.2)]
      · rw [if_pos (show hasN L (5 - j) ∧ ¬ c ≤ f.1 from ⟨q, q1⟩)]
        by_cases q2 : g.1 ≤ c
        · rw [if_pos (show hasN L (5 - j) ∧ g.1 ≤ c from ⟨q, q2⟩), if_pos q2, if_neg q1]
        · rw [if_neg (show ¬ (hasN L (5 - j) ∧ g.1 ≤ c) from fun u => q2 u.2), if_neg q2]
          have t : ¬ g.1 ≤ f.1 := by
            rw [Int32.le_iff_toInt_le] at q1 q2 ⊢
            omega
          rw [if_neg t]
    · rw [if_neg (show ¬ (hasN L (5 - j) ∧ ¬ c ≤ f.1) from fun u => q u.1), if_neg (show ¬ (hasN L (5 - j) ∧ g.1 ≤ c) from fun u => q u.1)]
