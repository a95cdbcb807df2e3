/-! told -/
def todA (S : Sta) (D : Day) (cnt x : Nat) : Nat := if x = 0 then cnt else if x = 1 then zdy D else if x = 2 then zlim S else if x = 3 then zns S else if x = 4 then zfg D else if x = 5 then zsn D else zou D
def toldA (S : Sta) (D : Day) (cnt : Nat) (p1 : Int32) : Int32 := if p1 < 0 then -2 else if p1.toNatClampNeg ≤ 6 then nI (todA S D cnt p1.toNatClampNeg) else if p1.toNatClampNeg < 10 then -2 else if p1.toNatClampNeg < 100 then (if p1.toNatClampNeg < 50 ∧ p1.toNatClampNeg % 10 ≤ 1 then (if p1.toNatClampNeg % 10 = 0 then nI (zoff S (p1.toNatClampNeg / 10 - 1)) else nI (zkp D (p1.toNatClampNeg / 10 - 1))) else -2) else if p1.toNatClampNeg < 700 ∧ p1.toNatClampNeg % 100 ≤ 2 then nI (zds S (3 * (p1.toNatClampNeg / 100 - 1) + p1.toNatClampNeg % 100)) else -2
set_option maxHeartbeats 200000 in
theorem in_pred {a k : Nat} (ha : a < 2147483648) (hk : k < 2147483647) : inR (nI a - 1) 0 (nI k) ↔ 1 ≤ a ∧ a ≤ k + 1 := by
  rcases Nat.eq_zero_or_pos a with q | q
  · subst q
    have e : nI 0 - 1 = -1 := by decide
    rw [e]
    exact ⟨fun w => absurd (show (-1 : Int32) < 0 by decide) w.1, fun w => absurd w.1 (by decide)⟩
  · have e : nI a - 1 = nI (a - 1) := by simp (disch := omega) only [k_0, k_1, k_2, k_3, k_4, k_5, k_6, k_7, k_8, k_9, k_10, k_15, k_16, k_18, k_20, k_26, k_27, k_31, k_33, k_46, k_48, k_49, k_51, k_53, k_57, k_60, k_61, k_63, k_64, k_65, k_70, k_71, k_74, k_75, k_80, k_81, k_82, k_83, k_84, k_85, k_98, k_99, k_100, k_102, k_114, k_115, k_119, k_121, k_126, k_200, k_999, k_1000, k_3000, k_9999, k_65537, k_1000000, k_999999999, k_500, n_mul, n_add, n_sub, n_div]
    rw [e]
    have w := inR_iff (x := a - 1) (a := 0) (b := k) (by omega) (by decide) (by omega)
    exact ⟨fun v => by have := w.mp v; omega, fun v => w.mpr (by omega)⟩
set_option maxHeartbeats 200000 in
theorem neg_pred {p : Int32} {d : Nat} (h : p < 0) (hd : d = 10 ∨ d = 100) : ∀ k, ¬ inR (p / nI d - 1) 0 k := by
  intro k w
  refine w.1 ?_
  have hp := Int32.lt_iff_toInt_lt.mp h
  have z0 : (0 : Int32).toInt = 0 := by decide
  rw [z0] at hp
  have lo := Int32.le_toInt p
  have ed : (nI d).toInt = (d : Int) := nI_toInt (by omega)
  have e1 : (p / nI d).toInt = p.toInt.tdiv d := by
    rw [Int32.toInt_div_of_ne_right _ _ (by rcases hd with rfl | rfl <;> decide), ed]
  have e2 : p.toInt.tdiv d = - ((-p.toInt).tdiv d) := by
    rw [Int.neg_tdiv]; omega
  have e3 : (-p.toInt).tdiv d = (-p.toInt) / d := Int.tdiv_eq_ediv_of_nonneg (by omega)
  have e4 : 0 ≤ (-p.toInt) / d := Int.ediv_nonneg (by omega) (by omega)
  have e5 : (-p.toInt) / d ≤ -p.toInt := Int.ediv_le_self _ (by omega)
  have e6 : (-p.toInt) / d < 2147483647 := by
    rcases hd with rfl | rfl <;> omega
  refine Int32.lt_iff_toInt_lt.mpr ?_
  rw [Int32.toInt_sub, e1, e2, e3, z0]
  have z1 : (1 : Int32).toInt = 1 := by decide
  rw [z1, Int.bmod_eq_of_le (by omega) (by omega)]
  omega
