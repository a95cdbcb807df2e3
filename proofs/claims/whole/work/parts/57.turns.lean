/-! turns: bits -/
abbrev subA (T F : Nat) : Prop := ∀ k, k < 6 → hasN T k → hasN F k
set_option maxHeartbeats 200000 in
theorem bt_1 : ∀ k, k < 6 → ∀ L, L < 64 → hasN L k → nI L &&& ((1 <<< (nI k &&& 31)) ^^^ (-1)) = nI (L - 2 ^ k) ∧ 2 ^ k ≤ L := by decide
set_option maxHeartbeats 200000 in
theorem bt_2 : ∀ F, F < 64 → ∀ T, T < 64 → (nI T &&& (nI F ^^^ (-1)) = 0 ↔ subA T F) := by decide +kernel
set_option maxHeartbeats 200000 in
theorem bt_3 : ∀ F, F < 64 → ∀ T, T < 64 → subA T F → nI F &&& (nI T ^^^ (-1)) = nI (F - T) ∧ T ≤ F := by decide +kernel
set_option maxHeartbeats 200000 in
theorem bt_4 : ∀ F, F < 64 → ∀ T, T < 64 → subA T F → ∀ k, k < 6 → hasN T k → subA (T - 2 ^ k) F := by decide +kernel
