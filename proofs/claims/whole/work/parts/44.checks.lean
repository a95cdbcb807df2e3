/-! checks of arguments -/
abbrev inR (p lo hi : Int32) : Prop := ¬ p < lo ∧ ¬ hi < p
set_option maxHeartbeats 200000 in
theorem inR_nI {p : Int32} {n : Nat} (hn : n < 2147483648) (h : inR p 0 (nI n)) : ∃ j : Nat, j ≤ n ∧ p = nI j := rng_nI hn h.1 h.2
set_option maxHeartbeats 200000 in
theorem inR_of {j n : Nat} (hn : n < 2147483648) (h : j ≤ n) : inR (nI j) 0 (nI n) := ⟨nI_pos (by omega), nI_nlt h (by omega)⟩
set_option maxHeartbeats 200000 in
theorem pX6_isWithin {p lo hi : Int32} {Q : Int32 → Prop} (h1 : inR p lo hi → Q 1) (h0 : ¬ inR p lo hi → Q 0) : wpX6_isWithin p lo hi Q := ⟨fun c => h0 (fun q => q.1 c), fun c => ⟨fun c2 => h0 (fun q => q.2 c2), fun c2 => h1 ⟨c, c2⟩⟩⟩
set_option maxHeartbeats 200000 in
theorem ck1X6_isWithin {p lo hi : Int32} {A B : Prop} (hA : ¬ inR p lo hi → A) (hB : inR p lo hi → B) : wpX6_isWithin p lo hi (fun r => (r = 0 → A) ∧ (¬ r = 0 → B)) := pX6_isWithin (fun c => br_f one_ne (hB c)) (fun c => br_t rfl (hA c))
set_option maxHeartbeats 200000 in
theorem ck2X6_isWithin {p lo hi : Int32} {A B : Prop} (hB : inR p lo hi → B) (hA : ¬ inR p lo hi → A) : wpX6_isWithin p lo hi (fun r => (¬ r = 0 → B) ∧ (r = 0 → A)) := pX6_isWithin (fun c => bn_t one_ne (hB c)) (fun c => bn_f rfl (hA c))
set_option maxHeartbeats 200000 in
theorem pX7_in {p lo hi : Int32} {Q : Int32 → Prop} (h1 : inR p lo hi → Q 1) (h0 : ¬ inR p lo hi → Q 0) : wpX7_in p lo hi Q := ⟨fun c => h0 (fun q => q.1 c), fun c => ⟨fun c2 => h0 (fun q => q.2 c2), fun c2 => h1 ⟨c, c2⟩⟩⟩
set_option maxHeartbeats 200000 in
theorem ck1X7_in {p lo hi : Int32} {A B : Prop} (hA : ¬ inR p lo hi → A) (hB : inR p lo hi → B) : wpX7_in p lo hi (fun r => (r = 0 → A) ∧ (¬ r = 0 → B)) := pX7_in (fun c => br_f one_ne (hB c)) (fun c => br_t rfl (hA c))
set_option maxHeartbeats 200000 in
theorem ck2X7_in {p lo hi : Int32} {A B : Prop} (hB : inR p lo hi → B) (hA : ¬ inR p lo hi → A) : wpX7_in p lo hi (fun r => (¬ r = 0 → B) ∧ (r = 0 → A)) := pX7_in (fun c => bn_t one_ne (hB c)) (fun c => bn_f rfl (hA c))
set_option maxHeartbeats 200000 in
theorem pX6_isColour {p : Int32} {Q : Int32 → Prop} (h1 : inR p 0 2 → Q 1) (h0 : ¬ inR p 0 2 → Q 0) : wpX6_isColour p Q := pX6_isWithin (fun c => ⟨Or.inr rfl, h1 c⟩) (fun c => ⟨Or.inl rfl, h0 c⟩)
set_option maxHeartbeats 200000 in
theorem ck1X6_isColour {p : Int32} {A B : Prop} (hA : ¬ inR p 0 2 → A) (hB : inR p 0 2 → B) : wpX6_isColour p (fun r => (r = 0 → A) ∧ (¬ r = 0 → B)) := pX6_isColour (fun c => br_f one_ne (hB c)) (fun c => br_t rfl (hA c))
set_option maxHeartbeats 200000 in
theorem ck2X6_isColour {p : Int32} {A B : Prop} (hB : inR p 0 2 → B) (hA : ¬ inR p 0 2 → A) : wpX6_isColour p (fun r => (¬ r = 0 → B) ∧ (r = 0 → A)) := pX6_isColour (fun c => bn_t one_ne (hB c)) (fun c => bn_f rfl (hA c))
set_option maxHeartbeats 200000 in
theorem pX6_isDress {p : Int32} {Q : Int32 → Prop} (h1 : inR p 0 5 → Q 1) (h0 : ¬ inR p 0 5 → Q 0) : wpX6_isDress p Q := pX6_isWithin (fun c => ⟨Or.inr rfl, h1 c⟩) (fun c => ⟨Or.inl rfl, h0 c⟩)
set_option maxHeartbeats 200000 in
theorem ck1X6_isDress {p : Int32} {A B : Prop} (hA : ¬ inR p 0 5 → A) (hB : inR p 0 5 → B) : wpX6_isDress p (fun r => (r = 0 → A) ∧ (¬ r = 0 → B)) := pX6_isDress (fun c => br_f one_ne (hB c)) (fun c => br_t rfl (hA c))
set_option maxHeartbeats 200000 in
theorem ck2X6_isDress {p : Int32} {A B : Prop} (hB : inR p 0 5 → B) (hA : ¬ inR p 0 5 → A) : wpX6_isDress p (fun r => (¬ r = 0 → B) ∧ (r = 0 → A)) := pX6_isDress (fun c => bn_t one_ne (hB c)) (fun c => bn_f rfl (hA c))
set_option maxHeartbeats 200000 in
theorem pX6_isSet {p : Int32} {Q : Int32 → Prop} (h1 : inR p 0 63 → Q 1) (h0 : ¬ inR p 0 63 → Q 0) : wpX6_isSet p Q := pX6_isWithin (fun c => ⟨Or.inr rfl, h1 c⟩) (fun c => ⟨Or.inl rfl, h0 c⟩)
set_option maxHeartbeats 200000 in
theorem ck1X6_isSet {p : Int32} {A B : Prop} (hA : ¬ inR p 0 63 → A) (hB : inR p 0 63 → B) : wpX6_isSet p (fun r => (r = 0 → A) ∧ (¬ r = 0 → B)) := pX6_isSet (fun c => br_f one_ne (hB c)) (fun c => br_t rfl (hA c))
set_option maxHeartbeats 200000 in
theorem ck2X6_isSet {p : Int32} {A B : Prop} (hB : inR p 0 63 → B) (hA : ¬ inR p 0 63 → A) : wpX6_isSet p (fun r => (¬ r = 0 → B) ∧ (r = 0 → A)) := pX6_isSet (fun c => bn_t one_ne (hB c)) (fun c => bn_f rfl (hA c))
set_option maxHeartbeats 200000 in
theorem pX6_isAmount {p : Int32} {Q : Int32 → Prop} (h1 : inR p 0 999 → Q 1) (h0 : ¬ inR p 0 999 → Q 0) : wpX6_isAmount p Q := pX6_isWithin (fun c => ⟨Or.inr rfl, h1 c⟩) (fun c => ⟨Or.inl rfl, h0 c⟩)
set_option maxHeartbeats 200000 in
theorem ck1X6_isAmount {p : Int32} {A B : Prop} (hA : ¬ inR p 0 999 → A) (hB : inR p 0 999 → B) : wpX6_isAmount p (fun r => (r = 0 → A) ∧ (¬ r = 0 → B)) := pX6_isAmount (fun c => br_f one_ne (hB c)) (fun c => br_t rfl (hA c))
set_option maxHeartbeats 200000 in
theorem ck2X6_isAmount {p : Int32} {A B : Prop} (hB : inR p 0 999 → B) (hA : ¬ inR p 0 999 → A) : wpX6_isAmount p (fun r => (¬ r = 0 → B) ∧ (r = 0 → A)) := pX6_isAmount (fun c => bn_t one_ne (hB c)) (fun c => bn_f rfl (hA c))
set_option maxHeartbeats 200000 in
theorem pX6_isAhead {p : Int32} {Q : Int32 → Prop} (h1 : inR p 0 60 → Q 1) (h0 : ¬ inR p 0 60 → Q 0) : wpX6_isAhead p Q := pX6_isWithin (fun c => ⟨Or.inr rfl, h1 c⟩) (fun c => ⟨Or.inl rfl, h0 c⟩)
set_option maxHeartbeats 200000 in
theorem ck1X6_isAhead {p : Int32} {A B : Prop} (hA : ¬ inR p 0 60 → A) (hB : inR p 0 60 → B) : wpX6_isAhead p (fun r => (r = 0 → A) ∧ (¬ r = 0 → B)) := pX6_isAhead (fun c => br_f one_ne (hB c)) (fun c => br_t rfl (hA c))
set_option maxHeartbeats 200000 in
theorem ck2X6_isAhead {p : Int32} {A B : Prop} (hB : inR p 0 60 → B) (hA : ¬ inR p 0 60 → A) : wpX6_isAhead p (fun r => (¬ r = 0 → B) ∧ (r = 0 → A)) := pX6_isAhead (fun c => bn_t one_ne (hB c)) (fun c => bn_f rfl (hA c))
set_option maxHeartbeats 200000 in
theorem pX6_isWall {p : Int32} {Q : Int32 → Prop} (h1 : inR p 0 3 → Q 1) (h0 : ¬ inR p 0 3 → Q 0) : wpX6_isWall p Q := pX6_isWithin (fun c => ⟨Or.inr rfl, h1 c⟩) (fun c => ⟨Or.inl rfl, h0 c⟩)
set_option maxHeartbeats 200000 in
theorem ck1X6_isWall {p : Int32} {A B : Prop} (hA : ¬ inR p 0 3 → A) (hB : inR p 0 3 → B) : wpX6_isWall p (fun r => (r = 0 → A) ∧ (¬ r = 0 → B)) := pX6_isWall (fun c => br_f one_ne (hB c)) (fun c => br_t rfl (hA c))
set_option maxHeartbeats 200000 in
theorem ck2X6_isWall {p : Int32} {A B : Prop} (hB : inR p 0 3 → B) (hA : ¬ inR p 0 3 → A) : wpX6_isWall p (fun r => (¬ r = 0 → B) ∧ (r = 0 → A)) := pX6_isWall (fun c => bn_t one_ne (hB c)) (fun c => bn_f rfl (hA c))
set_option maxHeartbeats 200000 in
theorem pX7_isDay {p : Int32} {Q : Int32 → Prop} (h1 : inR p 0 60 → Q 1) (h0 : ¬ inR p 0 60 → Q 0) : wpX7_isDay p Q := pX7_in (fun c => ⟨Or.inr rfl, h1 c⟩) (fun c => ⟨Or.inl rfl, h0 c⟩)
set_option maxHeartbeats 200000 in
theorem ck1X7_isDay {p : Int32} {A B : Prop} (hA : ¬ inR p 0 60 → A) (hB : inR p 0 60 → B) : wpX7_isDay p (fun r => (r = 0 → A) ∧ (¬ r = 0 → B)) := pX7_isDay (fun c => br_f one_ne (hB c)) (fun c => br_t rfl (hA c))
set_option maxHeartbeats 200000 in
theorem ck2X7_isDay {p : Int32} {A B : Prop} (hB : inR p 0 60 → B) (hA : ¬ inR p 0 60 → A) : wpX7_isDay p (fun r => (¬ r = 0 → B) ∧ (r = 0 → A)) := pX7_isDay (fun c => bn_t one_ne (hB c)) (fun c => bn_f rfl (hA c))
/-! bits -/
set_option maxHeartbeats 200000 in
theorem zs_l : ∀ n, n < 32 → ((nI n &&& 31).toBitVec.smod 32).toNat = n := by decide
set_option maxHeartbeats 200000 in
theorem bit_nI {f j : Nat} (hf : f < 2147483648) (hj : j < 32) : (nI f >>> (nI j &&& 31)) &&& 1 = nI (f / 2 ^ j % 2) := by
  rw [pk_shrN hf (nI j &&& 31) j (zs_l j hj)]
  have h1 : f / 2 ^ j ≤ f := Nat.div_le_self _ _
  exact pk_andN (by omega) 1 rfl
abbrev hasN (f j : Nat) : Prop := f / 2 ^ j % 2 = 1

set_option maxHeartbeats 200000 in
theorem pX6_has {f j : Nat} {Q : Int32 → Prop} (hf : f < 2147483648) (hj : j < 32) (h1 : hasN f j → Q 1) (h0 : ¬ hasN f j → Q 0) : wpX6_has (nI f) (nI j) Q := by
  unfold wpX6_has
  rw [bit_nI hf hj]
  have h2 : f / 2 ^ j % 2 < 2 := Nat.mod_lt _ (by decide)
  exact pk_ne (f / 2 ^ j % 2) 1 (fun q => h0 q) (fun q => h1 q)
set_option maxHeartbeats 200000 in
theorem pX7_has {f j : Nat} {Q : Int32 → Prop} (hf : f < 2147483648) (hj : j < 32) (h1 : hasN f j → Q 1) (h0 : ¬ hasN f j → Q 0) : wpX7_has (nI f) (nI j) Q := by
  unfold wpX7_has
  rw [bit_nI hf hj]
  have h2 : f / 2 ^ j % 2 < 2 := Nat.mod_lt _ (by decide)
  exact pk_ne (f / 2 ^ j % 2) 1 (fun q => h0 q) (fun q => h1 q)
