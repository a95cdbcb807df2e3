/-! the pure picture: what does not change by days (Sta), a day (Day) -/
abbrev Sta : Type := (Nat → Nat) × (Nat → Nat) × Nat × Nat × (Nat → Nat) × (Nat → Nat)
abbrev Day : Type := (Nat → Nat) × (Nat → Nat) × (Nat → Nat) × Nat × Nat × Nat × Nat
abbrev zoff (S : Sta) : Nat → Nat := S.1
abbrev zds (S : Sta) : Nat → Nat := S.2.1
abbrev zlim (S : Sta) : Nat := S.2.2.1
abbrev zns (S : Sta) : Nat := S.2.2.2.1
abbrev zsd (S : Sta) : Nat → Nat := S.2.2.2.2.1
abbrev zsa (S : Sta) : Nat → Nat := S.2.2.2.2.2
abbrev zsh (D : Day) : Nat → Nat := D.1
abbrev ztn (D : Day) : Nat → Nat := D.2.1
abbrev zkp (D : Day) : Nat → Nat := D.2.2.1
abbrev zfg (D : Day) : Nat := D.2.2.2.1
abbrev zsn (D : Day) : Nat := D.2.2.2.2.1
abbrev zou (D : Day) : Nat := D.2.2.2.2.2.1
abbrev zdy (D : Day) : Nat := D.2.2.2.2.2.2
def WS (S : Sta) : Prop := (∀ j, 1 ≤ zoff S j ∧ zoff S j ≤ 9) ∧ (∀ j, zds S j ≤ 99) ∧ zlim S ≤ 999 ∧ zns S ≤ 8 ∧ (∀ j, zsd S j ≤ 60) ∧ (∀ j, zsa S j ≤ 999)
def WD (D : Day) : Prop := (∀ j, zsh D j ≤ 99999) ∧ (∀ j, ztn D j ≤ 999) ∧ (∀ j, zkp D j ≤ 9) ∧ zfg D ≤ 1 ∧ zsn D ≤ 1 ∧ zou D < 64 ∧ zdy D ≤ 1000
def cap (n : Nat) : Nat := if n ≤ 999 then n else 999
set_option maxHeartbeats 200000 in
theorem cap_le (n : Nat) : cap n ≤ 999 := by unfold cap; split <;> omega
/-- what comes off the first i walls; p j: what was seen j + 1 days ahead -/
def wsm (off kp p : Nat → Nat) : Nat → Nat
  | 0 => 0
  | i + 1 => wsm off kp p i + p (off i - 1) * kp i / 10
set_option maxHeartbeats 200000 in
theorem wsm_le {off kp p : Nat → Nat} (hk : ∀ j, kp j ≤ 9) (hp : ∀ j, p j ≤ 999) : ∀ i, wsm off kp p i ≤ i * 900
  | 0 => Nat.zero_le _
  | i + 1 => by
    have ih := wsm_le (off := off) hk hp i
    have h1 : p (off i - 1) * kp i ≤ 999 * 9 := Nat.mul_le_mul (hp _) (hk _)
    unfold wsm
    omega
/-- what is seen of colour c, if so much more is shown -/
def seeA (off : Nat → Nat) (D : Day) (c more : Nat) : Nat := cap (zsh D c + more + (if zfg D = 0 ∧ zsn D = 0 then wsm off (zkp D) (fun j => ztn D (9 * c + j)) 4 else 0))
set_option maxHeartbeats 200000 in
theorem seeA_le (off : Nat → Nat) (D : Day) (c more : Nat) : seeA off D c more ≤ 999 := cap_le _
/-- the day ends -/
def passA (off : Nat → Nat) (D : Day) : Day := (fun _ => 0, fun k => if k % 9 = 0 then seeA off D (k / 9) 0 else if zsn D = 1 then 0 else ztn D (k - 1), zkp D, 0, 0, 0, zdy D + 1)
set_option maxHeartbeats 200000 in
theorem passA_WD {off : Nat → Nat} {D : Day} (h : WD D) (hd : zdy D < 1000) : WD (passA off D) := by
  obtain ⟨h1, h2, h3, h4, h5, h6, h7⟩ := h
  refine ⟨fun j => Nat.zero_le _, fun j => ?_, h3, Nat.zero_le _, Nat.zero_le _, Nat.succ_pos 63, hd⟩
  show (if j % 9 = 0 then seeA off D (j / 9) 0 else if zsn D = 1 then 0 else ztn D (j - 1)) ≤ 999
  split
  · exact seeA_le _ _ _ _
  · split
    · exact Nat.zero_le _
    · exact h2 _
abbrev overA (off : Nat → Nat) (lim : Nat) (D : Day) : Prop := lim < seeA off D 0 0 ∨ lim < seeA off D 1 0 ∨ lim < seeA off D 2 0
/-- dress k is shown besides -/
def wearA (ds : Nat → Nat) (k : Nat) (D : Day) : Day := (fun c => zsh D c + ds (3 * k + c), ztn D, zkp D, zfg D, zsn D, zou D, zdy D)
/-- the Gorge's contents g are the picture's -/
def RG (g : Gr) (S : Sta) (D : Day) : Prop :=
  aI 4 (Gr_off g) (zoff S) ∧ aI 18 (Gr_dresses g) (zds S) ∧ Gr_most g = nI (zlim S) ∧ Gr_sights g = nI (zns S) ∧ aI 8 (Gr_sightDays g) (zsd S) ∧ aI 8 (Gr_sightAmounts g) (zsa S) ∧
  aI 3 (Gr_today g) (zsh D) ∧ aI 27 (Gr_past g) (ztn D) ∧ aI 4 (Gr_keeps g) (zkp D) ∧ Gr_fog g = nI (zfg D) ∧ Gr_snow g = nI (zsn D) ∧ Gr_worn g = nI (zou D) ∧ Gr_day g = nI (zdy D)
