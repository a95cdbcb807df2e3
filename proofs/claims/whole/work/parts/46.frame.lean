/-! the model: what queries leave alone -/
def mkX (m : Mo) (x_shown : Nat → Int32) (x_then : Nat → Int32) (x_keep : Nat → Int32) (x_fogNow : Int32) (x_snowNow : Int32) (x_outNow : Int32) (x_dayNow : Int32) (x_reason : Int32) (x_acts : Int32) (x_brokenAt : Int32) (x_echo : Nat → Int32) (x_since : Nat → Int32) (x_counts : Nat → Int32) (x_value : Nat → Int32) : Mo := (m.1, m.2.1, m.2.2.1, m.2.2.2.1, m.2.2.2.2.1, m.2.2.2.2.2.1, m.2.2.2.2.2.2.1, m.2.2.2.2.2.2.2.1, m.2.2.2.2.2.2.2.2.1, m.2.2.2.2.2.2.2.2.2.1, m.2.2.2.2.2.2.2.2.2.2.1, m.2.2.2.2.2.2.2.2.2.2.2.1, m.2.2.2.2.2.2.2.2.2.2.2.2.1, m.2.2.2.2.2.2.2.2.2.2.2.2.2.1, x_shown, x_then, x_keep, x_fogNow, x_snowNow, x_outNow, x_dayNow, x_reason, x_acts, x_brokenAt, x_echo, x_since, x_counts, x_value, m.2.2.2.2.2.2.2.2.2.2.2.2.2.2.2.2.2.2.2.2.2.2.2.2.2.2.2.2.1, m.2.2.2.2.2.2.2.2.2.2.2.2.2.2.2.2.2.2.2.2.2.2.2.2.2.2.2.2.2)
/-- m' differs from m in what is reckoned on the way alone -/
def FX (m m' : Mo) : Prop := ∃ (x_shown : Nat → Int32) (x_then : Nat → Int32) (x_keep : Nat → Int32) (x_fogNow : Int32) (x_snowNow : Int32) (x_outNow : Int32) (x_dayNow : Int32) (x_reason : Int32) (x_acts : Int32) (x_brokenAt : Int32) (x_echo : Nat → Int32) (x_since : Nat → Int32) (x_counts : Nat → Int32) (x_value : Nat → Int32), m' = mkX m x_shown x_then x_keep x_fogNow x_snowNow x_outNow x_dayNow x_reason x_acts x_brokenAt x_echo x_since x_counts x_value
set_option maxHeartbeats 200000 in
theorem FX.rf {m : Mo} : FX m m := ⟨Mo_shown m, Mo_then m, Mo_keep m, Mo_fogNow m, Mo_snowNow m, Mo_outNow m, Mo_dayNow m, Mo_reason m, Mo_acts m, Mo_brokenAt m, Mo_echo m, Mo_since m, Mo_counts m, Mo_value m, rfl⟩
set_option maxHeartbeats 200000 in
theorem FX.trans {m m' m'' : Mo} (h : FX m m') (h2 : FX m' m'') : FX m m'' := by
  obtain ⟨x_shown, x_then, x_keep, x_fogNow, x_snowNow, x_outNow, x_dayNow, x_reason, x_acts, x_brokenAt, x_echo, x_since, x_counts, x_value, rfl⟩ := h
  obtain ⟨y_shown, y_then, y_keep, y_fogNow, y_snowNow, y_outNow, y_dayNow, y_reason, y_acts, y_brokenAt, y_echo, y_since, y_counts, y_value, rfl⟩ := h2
  exact ⟨y_shown, y_then, y_keep, y_fogNow, y_snowNow, y_outNow, y_dayNow, y_reason, y_acts, y_brokenAt, y_echo, y_since, y_counts, y_value, rfl⟩
set_option maxHeartbeats 200000 in
theorem FN.X {m m' : Mo} (h : FN m m') : FX m m' := by
  obtain ⟨a, b, c, f, s, o, d, rfl⟩ := h
  exact ⟨a, b, c, f, s, o, d, Mo_reason m, Mo_acts m, Mo_brokenAt m, Mo_echo m, Mo_since m, Mo_counts m, Mo_value m, rfl⟩
set_option maxHeartbeats 200000 in
theorem FX.reason {m m' : Mo} (h : FX m m') (z : Int32) : FX m (Mo_s_reason m' z) := by
  obtain ⟨x_shown, x_then, x_keep, x_fogNow, x_snowNow, x_outNow, x_dayNow, x_reason, x_acts, x_brokenAt, x_echo, x_since, x_counts, x_value, rfl⟩ := h
  exact ⟨x_shown, x_then, x_keep, x_fogNow, x_snowNow, x_outNow, x_dayNow, z, x_acts, x_brokenAt, x_echo, x_since, x_counts, x_value, rfl⟩
set_option maxHeartbeats 200000 in
theorem FX.acts {m m' : Mo} (h : FX m m') (z : Int32) : FX m (Mo_s_acts m' z) := by
  obtain ⟨x_shown, x_then, x_keep, x_fogNow, x_snowNow, x_outNow, x_dayNow, x_reason, x_acts, x_brokenAt, x_echo, x_since, x_counts, x_value, rfl⟩ := h
  exact ⟨x_shown, x_then, x_keep, x_fogNow, x_snowNow, x_outNow, x_dayNow, x_reason, z, x_brokenAt, x_echo, x_since, x_counts, x_value, rfl⟩
set_option maxHeartbeats 200000 in
theorem FX.brokenAt {m m' : Mo} (h : FX m m') (z : Int32) : FX m (Mo_s_brokenAt m' z) := by
  obtain ⟨x_shown, x_then, x_keep, x_fogNow, x_snowNow, x_outNow, x_dayNow, x_reason, x_acts, x_brokenAt, x_echo, x_since, x_counts, x_value, rfl⟩ := h
  exact ⟨x_shown, x_then, x_keep, x_fogNow, x_snowNow, x_outNow, x_dayNow, x_reason, x_acts, z, x_echo, x_since, x_counts, x_value, rfl⟩
set_option maxHeartbeats 200000 in
theorem FX.echo {m m' : Mo} (h : FX m m') (z : Nat → Int32) : FX m (Mo_s_echo m' z) := by
  obtain ⟨x_shown, x_then, x_keep, x_fogNow, x_snowNow, x_outNow, x_dayNow, x_reason, x_acts, x_brokenAt, x_echo, x_since, x_counts, x_value, rfl⟩ := h
  exact ⟨x_shown, x_then, x_keep, x_fogNow, x_snowNow, x_outNow, x_dayNow, x_reason, x_acts, x_brokenAt, z, x_since, x_counts, x_value, rfl⟩
set_option maxHeartbeats 200000 in
theorem FX.since {m m' : Mo} (h : FX m m') (z : Nat → Int32) : FX m (Mo_s_since m' z) := by
  obtain ⟨x_shown, x_then, x_keep, x_fogNow, x_snowNow, x_outNow, x_dayNow, x_reason, x_acts, x_brokenAt, x_echo, x_since, x_counts, x_value, rfl⟩ := h
  exact ⟨x_shown, x_then, x_keep, x_fogNow, x_snowNow, x_outNow, x_dayNow, x_reason, x_acts, x_brokenAt, x_echo, z, x_counts, x_value, rfl⟩
set_option maxHeartbeats 200000 in
theorem FX.counts {m m' : Mo} (h : FX m m') (z : Nat → Int32) : FX m (Mo_s_counts m' z) := by
  obtain ⟨x_shown, x_then, x_keep, x_fogNow, x_snowNow, x_outNow, x_dayNow, x_reason, x_acts, x_brokenAt, x_echo, x_since, x_counts, x_value, rfl⟩ := h
  exact ⟨x_shown, x_then, x_keep, x_fogNow, x_snowNow, x_outNow, x_dayNow, x_reason, x_acts, x_brokenAt, x_echo, x_since, z, x_value, rfl⟩
set_option maxHeartbeats 200000 in
theorem FX.value {m m' : Mo} (h : FX m m') (z : Nat → Int32) : FX m (Mo_s_value m' z) := by
  obtain ⟨x_shown, x_then, x_keep, x_fogNow, x_snowNow, x_outNow, x_dayNow, x_reason, x_acts, x_brokenAt, x_echo, x_since, x_counts, x_value, rfl⟩ := h
  exact ⟨x_shown, x_then, x_keep, x_fogNow, x_snowNow, x_outNow, x_dayNow, x_reason, x_acts, x_brokenAt, x_echo, x_since, x_counts, z, rfl⟩
def RMo (m : Mo) (S : Sta) (D : Day) (sg : Nat → Nat) (cnt : Nat) (I J : Nat → Int32) : Prop := RMS m S ∧ RP m D ∧ Mo_sights m = nI (zns S) ∧ (∀ i, i < 8 → Mo_sight m (2 * i) = nI (zsd S i) ∧ Mo_sight m (2 * i + 1) = nI (zsa S i)) ∧ Mo_signs m = nI cnt ∧ aI 60 (Mo_pad m) sg ∧ Mo_image m = I ∧ Mo_isKept m = J
set_option maxHeartbeats 200000 in
theorem FX.R {m m' : Mo} {S : Sta} {D : Day} {sg : Nat → Nat} {cnt : Nat} {I J : Nat → Int32} (h : FX m m') (hR : RMo m S D sg cnt I J) : RMo m' S D sg cnt I J := by
  obtain ⟨x_shown, x_then, x_keep, x_fogNow, x_snowNow, x_outNow, x_dayNow, x_reason, x_acts, x_brokenAt, x_echo, x_since, x_counts, x_value, rfl⟩ := h
  exact hR
def RPd (p : Pd) (sg : Nat → Nat) (cnt : Nat) : Prop := aI 60 (Pd_signs p) sg ∧ Pd_count p = nI cnt
