/-! numbers: Int32 over Nat -/
set_option maxHeartbeats 200000 in
theorem k_0 : (0 : Int32) = nI 0 := rfl
set_option maxHeartbeats 200000 in
theorem k_1 : (1 : Int32) = nI 1 := rfl
set_option maxHeartbeats 200000 in
theorem k_2 : (2 : Int32) = nI 2 := rfl
set_option maxHeartbeats 200000 in
theorem k_3 : (3 : Int32) = nI 3 := rfl
set_option maxHeartbeats 200000 in
theorem k_4 : (4 : Int32) = nI 4 := rfl
set_option maxHeartbeats 200000 in
theorem k_5 : (5 : Int32) = nI 5 := rfl
set_option maxHeartbeats 200000 in
theorem k_6 : (6 : Int32) = nI 6 := rfl
set_option maxHeartbeats 200000 in
theorem k_7 : (7 : Int32) = nI 7 := rfl
set_option maxHeartbeats 200000 in
theorem k_8 : (8 : Int32) = nI 8 := rfl
set_option maxHeartbeats 200000 in
theorem k_9 : (9 : Int32) = nI 9 := rfl
set_option maxHeartbeats 200000 in
theorem k_10 : (10 : Int32) = nI 10 := rfl
set_option maxHeartbeats 200000 in
theorem k_15 : (15 : Int32) = nI 15 := rfl
set_option maxHeartbeats 200000 in
theorem k_16 : (16 : Int32) = nI 16 := rfl
set_option maxHeartbeats 200000 in
theorem k_18 : (18 : Int32) = nI 18 := rfl
set_option maxHeartbeats 200000 in
theorem k_20 : (20 : Int32) = nI 20 := rfl
set_option maxHeartbeats 200000 in
theorem k_26 : (26 : Int32) = nI 26 := rfl
set_option maxHeartbeats 200000 in
theorem k_27 : (27 : Int32) = nI 27 := rfl
set_option maxHeartbeats 200000 in
theorem k_31 : (31 : Int32) = nI 31 := rfl
set_option maxHeartbeats 200000 in
theorem k_33 : (33 : Int32) = nI 33 := rfl
set_option maxHeartbeats 200000 in
theorem k_46 : (46 : Int32) = nI 46 := rfl
set_option maxHeartbeats 200000 in
theorem k_48 : (48 : Int32) = nI 48 := rfl
set_option maxHeartbeats 200000 in
theorem k_49 : (49 : Int32) = nI 49 := rfl
set_option maxHeartbeats 200000 in
theorem k_51 : (51 : Int32) = nI 51 := rfl
set_option maxHeartbeats 200000 in
theorem k_53 : (53 : Int32) = nI 53 := rfl
set_option maxHeartbeats 200000 in
theorem k_57 : (57 : Int32) = nI 57 := rfl
set_option maxHeartbeats 200000 in
theorem k_60 : (60 : Int32) = nI 60 := rfl
set_option maxHeartbeats 200000 in
theorem k_61 : (61 : Int32) = nI 61 := rfl
set_option maxHeartbeats 200000 in
theorem k_63 : (63 : Int32) = nI 63 := rfl
set_option maxHeartbeats 200000 in
theorem k_64 : (64 : Int32) = nI 64 := rfl
set_option maxHeartbeats 200000 in
theorem k_65 : (65 : Int32) = nI 65 := rfl
set_option maxHeartbeats 200000 in
theorem k_70 : (70 : Int32) = nI 70 := rfl
set_option maxHeartbeats 200000 in
theorem k_71 : (71 : Int32) = nI 71 := rfl
set_option maxHeartbeats 200000 in
theorem k_74 : (74 : Int32) = nI 74 := rfl
set_option maxHeartbeats 200000 in
theorem k_75 : (75 : Int32) = nI 75 := rfl
set_option maxHeartbeats 200000 in
theorem k_80 : (80 : Int32) = nI 80 := rfl
set_option maxHeartbeats 200000 in
theorem k_81 : (81 : Int32) = nI 81 := rfl
set_option maxHeartbeats 200000 in
theorem k_82 : (82 : Int32) = nI 82 := rfl
set_option maxHeartbeats 200000 in
theorem k_83 : (83 : Int32) = nI 83 := rfl
set_option maxHeartbeats 200000 in
theorem k_84 : (84 : Int32) = nI 84 := rfl
set_option maxHeartbeats 200000 in
theorem k_85 : (85 : Int32) = nI 85 := rfl
set_option maxHeartbeats 200000 in
theorem k_98 : (98 : Int32) = nI 98 := rfl
set_option maxHeartbeats 200000 in
theorem k_99 : (99 : Int32) = nI 99 := rfl
set_option maxHeartbeats 200000 in
theorem k_100 : (100 : Int32) = nI 100 := rfl
set_option maxHeartbeats 200000 in
theorem k_102 : (102 : Int32) = nI 102 := rfl
set_option maxHeartbeats 200000 in
theorem k_114 : (114 : Int32) = nI 114 := rfl
set_option maxHeartbeats 200000 in
theorem k_115 : (115 : Int32) = nI 115 := rfl
set_option maxHeartbeats 200000 in
theorem k_119 : (119 : Int32) = nI 119 := rfl
set_option maxHeartbeats 200000 in
theorem k_121 : (121 : Int32) = nI 121 := rfl
set_option maxHeartbeats 200000 in
theorem k_126 : (126 : Int32) = nI 126 := rfl
set_option maxHeartbeats 200000 in
theorem k_200 : (200 : Int32) = nI 200 := rfl
set_option maxHeartbeats 200000 in
theorem k_999 : (999 : Int32) = nI 999 := rfl
set_option maxHeartbeats 200000 in
theorem k_1000 : (1000 : Int32) = nI 1000 := rfl
set_option maxHeartbeats 200000 in
theorem k_3000 : (3000 : Int32) = nI 3000 := rfl
set_option maxHeartbeats 200000 in
theorem k_9999 : (9999 : Int32) = nI 9999 := rfl
set_option maxHeartbeats 200000 in
theorem k_65537 : (65537 : Int32) = nI 65537 := rfl
set_option maxHeartbeats 200000 in
theorem k_1000000 : (1000000 : Int32) = nI 1000000 := rfl
set_option maxHeartbeats 200000 in
theorem k_999999999 : (999999999 : Int32) = nI 999999999 := rfl
set_option maxHeartbeats 200000 in
theorem k_500 : (500 : Int32) = nI 500 := rfl
set_option maxHeartbeats 200000 in
theorem n_mul (a b : Nat) : nI a * nI b = nI (a * b) := pk_mul a b
set_option maxHeartbeats 200000 in
theorem n_add (a b : Nat) : nI a + nI b = nI (a + b) := nI_add a b
set_option maxHeartbeats 200000 in
theorem n_sub {a b : Nat} (h : b ≤ a) : nI a - nI b = nI (a - b) := pk_sub h
set_option maxHeartbeats 200000 in
theorem n_div {a d : Nat} (ha : a < 2147483648) (h0 : 0 < d) (hd : d < 2147483648) : nI a / nI d = nI (a / d) := pk_div ha h0 hd
set_option maxHeartbeats 200000 in
theorem bn_t {c A B : Prop} (h : ¬ c) (a : A) : (¬ c → A) ∧ (c → B) := ⟨fun _ => a, fun q => absurd q h⟩
set_option maxHeartbeats 200000 in
theorem bn_f {c A B : Prop} (h : c) (b : B) : (¬ c → A) ∧ (c → B) := ⟨fun q => absurd h q, fun _ => b⟩
set_option maxHeartbeats 200000 in
theorem bn_c {c A B : Prop} (a : ¬ c → A) (b : c → B) : (¬ c → A) ∧ (c → B) := ⟨a, b⟩
set_option maxHeartbeats 200000 in
theorem pk_ne {x y : Int32} {A B : Prop} (a b : Nat) (f : a ≠ b → A) (g : a = b → B) (hx : x = nI a := by rfl) (hy : y = nI b := by rfl) (ha : a < 2 ^ 31 := by omega) (hb : b < 2 ^ 31 := by omega) : (¬ x = y → A) ∧ (x = y → B) := by
  subst hx hy
  rw [nI_eq ha hb]
  exact ⟨f, g⟩
set_option maxHeartbeats 200000 in
theorem nI_inj {a b : Nat} (ha : a < 2147483648) (hb : b < 2147483648) (h : nI a = nI b) : a = b := (nI_eq ha hb).mp h
set_option maxHeartbeats 200000 in
theorem one_ne : ¬ (1 : Int32) = 0 := by decide
set_option maxHeartbeats 200000 in
/-- a range told by two compares -/
theorem rng_nI {x : Int32} {n : Nat} (hn : n < 2147483648) (h0 : ¬ x < 0) (h1 : ¬ nI n < x) : ∃ j : Nat, j ≤ n ∧ x = nI j := by
  obtain ⟨j, hj, rfl⟩ := nI_of h0
  refine ⟨j, ?_, rfl⟩
  rcases Nat.lt_or_ge n j with q | q
  · exact absurd ((nI_ltI hn hj).mpr q) h1
  · exact q
def aI (n : Nat) (a : Nat → Int32) (f : Nat → Nat) : Prop := ∀ j, j < n → a j = nI (f j)
def fU (f : Nat → Nat) (k v : Nat) : Nat → Nat := fun j => if j = k then v else f j
set_option maxHeartbeats 200000 in
theorem fU_s {f : Nat → Nat} {k v : Nat} : fU f k v k = v := if_pos rfl
set_option maxHeartbeats 200000 in
theorem fU_n {f : Nat → Nat} {k v j : Nat} (h : j ≠ k) : fU f k v j = f j := if_neg h
set_option maxHeartbeats 200000 in
theorem fU_le {f : Nat → Nat} {k v B : Nat} (h : ∀ j, f j ≤ B) (hv : v ≤ B) : ∀ j, fU f k v j ≤ B := fun j => by
  unfold fU
  split
  · exact hv
  · exact h j
set_option maxHeartbeats 200000 in
theorem aI_rd {n : Nat} {a : Nat → Int32} {f : Nat → Nat} {i : Nat} (h : aI n a f) (hi : i < n) (hn : n < 2147483648 := by omega) : a (nI i).toNatClampNeg = nI (f i) := by
  rw [nI_clamp (show i < 2 ^ 31 by omega)]
  exact h i hi
set_option maxHeartbeats 200000 in
theorem aI_up {n : Nat} {a : Nat → Int32} {f : Nat → Nat} {k v : Nat} (h : aI n a f) (hk : k < 2147483648 := by omega) : aI n (upd a (nI k).toNatClampNeg (nI v)) (fU f k v) := by
  intro j hj
  rw [nI_clamp (show k < 2 ^ 31 by omega)]
  unfold upd fU
  split
  · rfl
  · exact h j hj
set_option maxHeartbeats 200000 in
theorem aI_cp {n : Nat} {a b : Nat → Int32} {f : Nat → Nat} (h : aI n a f) : aI n (va_cpy a b 0 0 n) f := by
  intro j hj
  rw [pk_cpy_in (Nat.zero_le j) (by omega)]
  simp only [Nat.zero_add, Nat.sub_zero]
  exact h j hj
set_option maxHeartbeats 200000 in
theorem aI_cg {n : Nat} {a : Nat → Int32} {f g : Nat → Nat} (h : aI n a f) (e : ∀ j, j < n → f j = g j) : aI n a g := fun j hj => by rw [h j hj, e j hj]
set_option maxHeartbeats 200000 in
theorem aI_mono {n m : Nat} {a : Nat → Int32} {f : Nat → Nat} (h : aI n a f) (e : m ≤ n) : aI m a f := fun j hj => h j (by omega)
set_option maxHeartbeats 200000 in
/-- a counted loop upward: from i to e -/
theorem up_loop {W : Nat → Nat → Prop} (e : Nat) (hx : ∀ n, W (n + 1) e) (hs : ∀ n i, i < e → W n (i + 1) → W (n + 1) i) : ∀ i, i ≤ e → ∃ n, W n i := by
  intro i hi
  have : ∀ j i, i + j = e → W (j + 1) i := by
    intro j
    induction j with
    | zero => intro i h; have : i = e := by omega
              subst this; exact hx 0
    | succ j ih => intro i h; exact hs (j + 1) i (by omega) (ih (i + 1) (by omega))
  exact ⟨e - i + 1, this (e - i) i (by omega)⟩
