/-! turns: bits -/
abbrev subA (T F : Nat) : Prop := ∀ k, k < 6 → hasN T k → hasN F k
set_option maxHeartbeats 200000 in
theorem bt_1 : ∀ k, k < 6 → ∀ L, L < 64 → hasN L k → nI L &&& ((1 <<< (nI k &&& 31)) ^^^ (-1)) = nI (L - 2 ^ k) ∧ 2 ^ k ≤ L := by decide
set_option maxHeartbeats 200000 in
theorem bt_2 : ∀ F, F < 64 → ∀ T, T < 64 → (nI T &&& (nI F ^^^ (-1)) = 0 ↔ subA T F) := by decide +kernel
set_option maxHeartbeats 200000 in
theorem bt_3 : ∀ F, F < 64 → ∀ T, T < 64 → subA T F → nI F &&& (nI T ^^^ (-1)) = nI (F - T) ∧ T ≤ F := by decide +kernel
set_option maxHeartbeats 200000 in
theorem bt_4 : ∀ T, T < 64 → ∀ k, k < 6 → hasN T k → ∀ j, j < 6 → hasN (T - 2 ^ k) j → hasN T j := by decide +kernel
set_option maxHeartbeats 200000 in
theorem sub_less {T F k : Nat} (hT : T < 64) (hk : k < 6) (h : subA T F) (hh : hasN T k) : subA (T - 2 ^ k) F := fun j hj w => h j hj (bt_4 T hT k hk hh j hj w)
/-! turns: spec -/
abbrev loA (S : Sta) (D : Day) (T : Nat) : Prop := zlim S < seeA (zoff S) D 0 (wos (zds S) T 0 6) ∨ zlim S < seeA (zoff S) D 1 (wos (zds S) T 1 6) ∨ zlim S < seeA (zoff S) D 2 (wos (zds S) T 2 6)
/-- what dress k is worth to who moves, L being left of F -/
def caA (S : Sta) (D : Day) (F : Nat) (tb : Nat → Int32 × Int32) (L k : Nat) : Int32 := if loA S D (F - (L - 2 ^ k)) then -1 else -(tb (L - 2 ^ k)).1
def f6A (S : Sta) (D : Day) (F : Nat) (tb : Nat → Int32 × Int32) (L : Nat) : Nat → Int32 × Int32
  | 0 => (-1, -6)
  | k + 1 => if hasN L k ∧ ¬ caA S D F tb L k ≤ (f6A S D F tb L k).1 then (caA S D F tb L k, nI k) else f6A S D F tb L k
def tbA (S : Sta) (D : Day) (F : Nat) : Nat → Nat → Int32 × Int32
  | 0 => fun _ => (0, -6)
  | n + 1 => fun L => if L = n + 1 then f6A S D F (tbA S D F n) (n + 1) 6 else tbA S D F n L
set_option maxHeartbeats 200000 in
theorem tbA_st {S : Sta} {D : Day} {F L : Nat} : ∀ k, tbA S D F (L + k) L = tbA S D F L L
  | 0 => rfl
  | k + 1 => by
    show (if L = L + k + 1 then _ else tbA S D F (L + k) L) = _
    rw [if_neg (by omega)]
    exact tbA_st k
def trA (S : Sta) (D : Day) (F : Nat) : Int32 × Int32 := tbA S D F F F
def turnsA (S : Sta) (D : Day) (p1 p2 : Int32) : Int32 := if inR p1 0 63 then (if inR p2 0 1 then (if p2 = 0 then (if (trA S D p1.toNatClampNeg).1 = 0 then -6 else if (trA S D p1.toNatClampNeg).1 = 1 then 0 else 1) else (trA S D p1.toNatClampNeg).2) else -2) else -1
set_option maxHeartbeats 200000 in
theorem wos_le2 {ds : Nat → Nat} {T c : Nat} (h : ∀ j, ds j ≤ 99) : ∀ k, wos ds T c k ≤ 99 * k
  | 0 => Nat.le_refl _
  | k + 1 => by
    have ih := wos_le2 (T := T) (c := c) h k
    have h1 := h (3 * k + c)
    show wos ds T c k + (if hasN T k then ds (3 * k + c) else 0) ≤ _
    split <;> omega
set_option maxHeartbeats 200000 in
theorem pX2_loses {vt : Gm} {g : Gr} {S : Sta} {D : Day} {T : Nat} {Q : Int32 → Gm → Gr → Prop} (hR : RG g S D) (hS : WS S) (hD : WD D) (hT : T < 64) (h1 : loA S D T → Q 1 vt g) (h0 : ¬ loA S D T → Q 0 vt g) : wpX2_loses vt g (nI T) Q := by
  have hl : Gr_most g = nI (zlim S) := hR.2.2.1
  have hl9 := hS.2.2.1
  have step : ∀ n c, c < 3 → (seeA (zoff S) D c (wos (zds S) T c 6) ≤ zlim S → wpX2_loses_L2 Q n vt g (nI T) (nI (c + 1))) → (zlim S < seeA (zoff S) D c (wos (zds S) T c 6) → Q 1 vt g) → wpX2_loses_L2 Q (n + 1) vt g (nI T) (nI c) := by
    intro n c hc g1 g0
    show wpX2_loses_H2 Q _ _ _ _ _
    unfold wpX2_loses_H2
    have w := wos_le2 (T := T) (c := c) hS.2.1 6
    have sl := seeA_le (zoff S) D c (wos (zds S) T c 6)
    refine br_f (nI_ge hc (by decide)) (pX3_worthOfSet hR hT hc (pX3_seenToday hR hS hD hc (by omega) ?_))
    rw [hl]
    exact pk_le _ (zlim S) (fun q => nm_r (nI_1 c) (g1 q)) (fun q => g0 (by omega))
  have fin : ∀ n, Q 0 vt g → wpX2_loses_L2 Q (n + 1) vt g (nI T) (nI 3) := by
    intro n q
    show wpX2_loses_H2 Q _ _ _ _ _
    unfold wpX2_loses_H2
    exact br_t (by decide) q
  unfold wpX2_loses
  refine ⟨4, step 3 0 (by decide) (fun q0 => step 2 1 (by decide) (fun q1 => step 1 2 (by decide) (fun q2 => fin 0 (h0 ?_)) (fun q => h1 (Or.inr (Or.inr q)))) (fun q => h1 (Or.inr (Or.inl q)))) (fun q => h1 (Or.inl q))⟩
  omega
