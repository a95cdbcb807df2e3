/-! Z: the walk of one method with heap and locals abstracted: any heap that holds the world w, any locals that hold lv -/
abbrev ZE : Type := Program × Launch × Env × Room × State × MethodId × Array Value × List Frame × Method × Code × va_G × (Nat → Prop) × (State → Prop)
def Z (E : ZE) (N k n : Nat) (w : va_W) (lv : List (Nat × Value)) (pc : Nat) (st : List Value) : Prop := match E with
  | (p, l, e, R, s, m, args, below, meth, c, D, A, Q) => ∀ (H : Heap) (locs : List Loc) (ls : Array Slot), va_P D vwCl w H → va_D A w → va_S A s.heap H locs → lv_has ls N lv → W p l e R s m args below meth c H locs k n Q (F0 m pc ls st)
def zNl : List (String × Nat × MethodName) := [("ColourEcho", 11, yX3_init), ("ColourEcho", 21, yX5_init), ("ColourEcho", 28, yX1_init), ("ColourEcho$Days", 11, yX3_init), ("ColourEcho", 35, yX0_init), ("ColourEcho", 42, yX4_init), ("ColourEcho", 49, yX2_init), ("ColourEcho$Pad", 26, yX6_isWithin), ("ColourEcho$Gorge", 59, yX6_has), ("ColourEcho$Gorge", 93, yX6_isWall), ("ColourEcho$Gorge", 70, yX6_capped), ("ColourEcho$Course", 32, yX6_has), ("ColourEcho$Course", 28, yX6_capped), ("ColourEcho$Course", 46, yX6_isAhead), ("ColourEcho$Guesses", 62, yX6_isAhead), ("ColourEcho$Guesses", 66, yX6_isAmount), ("ColourEcho$Game", 26, yX6_has)]
/-- launch, numbers of classes and slots, the two array types' numbers -/
abbrev ZG : Type := Launch × va_G × ClassId × ClassId
abbrev zty (G : ZG) : List (ClassId × FieldType) := [(G.2.2.1, .int), (G.2.2.2, .boolean)]
/-- the links between nest mates -/
def zN (U : State) : Prop := ∀ q ∈ zNl, va_Nw (.methodLinkNest q.1 q.2.1 q.2.2 "ColourEcho") U
theorem zN.warm {s U : State} (hW : s.WarmedH U.vm) (h : zN s) : zN U := fun q hq => va_Nw.warmM hW (h q hq)
theorem zN.same {u U : State} (e : u.vm = U.vm) (h : zN u) : zN U := fun q hq => va_Nw.same rfl e (h q hq)
/-- what stays as it is while a method runs -/
def ZF (E : ZE) (N : Nat) (cc : ByteArray) (own : String) (Ts : List Cond) (rm : Room) (G : ZG) : Prop := match E with
  | (p, l, _, R, s, m, args, _, _, c, D, A, _) => p.tables.exec = Jvm.exec ∧ c.code = cc ∧ c.maxLocals = N ∧ s.vm.findClass own = some m.cls ∧ (∀ w ∈ Ts, w.before args s = true) ∧ va_K D vwCl (zty G) s ∧ zN s ∧ (∀ q, s.heap.size ≤ q → A q) ∧ R = rm ∧ l = G.1 ∧ D = G.2.1
/-- a word of the method's list, true at its start -/
def ZW (E : ZE) (x : Cond) : Prop := match E with
  | (_, _, _, _, s, _, args, _, _, _, _, _, _) => x.before args s = true
section
variable {E : ZE} {N k n : Nat} {w : va_W} {lv : List (Nat × Value)} {pc : Nat} {st : List Value} {cc : ByteArray} {own : String} {Ts : List Cond} {rm : Room} {G : ZG}
theorem ZF.word (F : ZF E N cc own Ts rm G) {x : Cond} (h : x ∈ Ts) : ZW E x := by
  obtain ⟨p, l, e, R, s, m, args, below, meth, c, D, A, Q⟩ := E
  exact F.2.2.2.2.1 x h
theorem ZF.at (F : ZF E N cc own Ts rm G) (i : Nat) {x : Cond} (h : Ts[i]? = some x) : ZW E x := F.word (List.mem_of_getElem? h)
theorem z_iconst {z : Int} {v : Int32} (F : ZF E N cc own Ts rm G) (d : decode cc pc = .ok (.iconst z, 1)) (hv : Int32.ofInt z = v) (h : Z E N k n w lv (pc + 1) (.int v :: st)) : Z E N k n w lv pc (st) := by
  obtain ⟨p, l, e, R, s, m, args, below, meth, c, D, A, Q⟩ := E
  obtain ⟨hx, hb, hml, hown, hts, hK, hN, hA, hR, hGl, hGd⟩ := F
  intro H locs ls hP hD hS hl
  exact lv_iconst hx hb d hv (h H locs ls hP hD hS hl)
theorem z_bipush {z : Int} {v : Int32} (F : ZF E N cc own Ts rm G) (d : decode cc pc = .ok (.bipush z, 2)) (hv : (Int8.ofInt z).toInt32 = v) (h : Z E N k n w lv (pc + 2) (.int v :: st)) : Z E N k n w lv pc (st) := by
  obtain ⟨p, l, e, R, s, m, args, below, meth, c, D, A, Q⟩ := E
  obtain ⟨hx, hb, hml, hown, hts, hK, hN, hA, hR, hGl, hGd⟩ := F
  intro H locs ls hP hD hS hl
  exact lv_bipush hx hb d hv (h H locs ls hP hD hS hl)
theorem z_sipush {z : Int} {v : Int32} (F : ZF E N cc own Ts rm G) (d : decode cc pc = .ok (.sipush z, 3)) (hv : (Int16.ofInt z).toInt32 = v) (h : Z E N k n w lv (pc + 3) (.int v :: st)) : Z E N k n w lv pc (st) := by
  obtain ⟨p, l, e, R, s, m, args, below, meth, c, D, A, Q⟩ := E
  obtain ⟨hx, hb, hml, hown, hts, hK, hN, hA, hR, hGl, hGd⟩ := F
  intro H locs ls hP hD hS hl
  exact lv_sipush hx hb d hv (h H locs ls hP hD hS hl)
theorem z_lconst {z : Fin 2} {v : Int64} (F : ZF E N cc own Ts rm G) (d : decode cc pc = .ok (.lconst z, 1)) (hv : Int64.ofNat (z : Nat) = v) (h : Z E N k n w lv (pc + 1) (.long v :: st)) : Z E N k n w lv pc (st) := by
  obtain ⟨p, l, e, R, s, m, args, below, meth, c, D, A, Q⟩ := E
  obtain ⟨hx, hb, hml, hown, hts, hK, hN, hA, hR, hGl, hGd⟩ := F
  intro H locs ls hP hD hS hl
  exact lv_lconst hx hb d hv (h H locs ls hP hD hS hl)
theorem z_ldc {i : Nat} {v : Int32} (F : ZF E N cc own Ts rm G) (d : decode cc pc = .ok (.ldc i, 2)) (hc : ZW E (.constant own i v)) (h : Z E N k n w lv (pc + 2) (.int v :: st)) : Z E N k n w lv pc (st) := by
  obtain ⟨p, l, e, R, s, m, args, below, meth, c, D, A, Q⟩ := E
  obtain ⟨hx, hb, hml, hown, hts, hK, hN, hA, hR, hGl, hGd⟩ := F
  intro H locs ls hP hD hS hl
  exact lv_ldc hx hb hown hc d (h H locs ls hP hD hS hl)
theorem z_ldcw {i : Nat} {v : Int32} (F : ZF E N cc own Ts rm G) (d : decode cc pc = .ok (.ldc_w i, 3)) (hc : ZW E (.constant own i v)) (h : Z E N k n w lv (pc + 3) (.int v :: st)) : Z E N k n w lv pc (st) := by
  obtain ⟨p, l, e, R, s, m, args, below, meth, c, D, A, Q⟩ := E
  obtain ⟨hx, hb, hml, hown, hts, hK, hN, hA, hR, hGl, hGd⟩ := F
  intro H locs ls hP hD hS hl
  exact lv_ldcw hx hb hown hc d (h H locs ls hP hD hS hl)
theorem z_ldc2 {i : Nat} {v : Int64} (F : ZF E N cc own Ts rm G) (d : decode cc pc = .ok (.ldc2_w i, 3)) (hc : ZW E (.constantLong own i v)) (h : Z E N k n w lv (pc + 3) (.long v :: st)) : Z E N k n w lv pc (st) := by
  obtain ⟨p, l, e, R, s, m, args, below, meth, c, D, A, Q⟩ := E
  obtain ⟨hx, hb, hml, hown, hts, hK, hN, hA, hR, hGl, hGd⟩ := F
  intro H locs ls hP hD hS hl
  exact lv_ldc2 hx hb hown hc d (h H locs ls hP hD hS hl)
theorem z_iload_n {q : Fin 4} {i : Nat} {x : Int32} (F : ZF E N cc own Ts rm G) (d : decode cc pc = .ok (.iload_n q, 1)) (hi : (q : Nat) = i) (j : Nat) (hv : lv[j]? = some (i, .int x)) (h : Z E N k n w lv (pc + 1) (.int x :: st)) : Z E N k n w lv pc (st) := by
  obtain ⟨p, l, e, R, s, m, args, below, meth, c, D, A, Q⟩ := E
  obtain ⟨hx, hb, hml, hown, hts, hK, hN, hA, hR, hGl, hGd⟩ := F
  intro H locs ls hP hD hS hl
  exact lv_iload_n hx hb d hi (lv_at hl j hv) (h H locs ls hP hD hS hl)
theorem z_iload {i : Nat} {x : Int32} (F : ZF E N cc own Ts rm G) (d : decode cc pc = .ok (.iload i, 2)) (j : Nat) (hv : lv[j]? = some (i, .int x)) (h : Z E N k n w lv (pc + 2) (.int x :: st)) : Z E N k n w lv pc (st) := by
  obtain ⟨p, l, e, R, s, m, args, below, meth, c, D, A, Q⟩ := E
  obtain ⟨hx, hb, hml, hown, hts, hK, hN, hA, hR, hGl, hGd⟩ := F
  intro H locs ls hP hD hS hl
  exact lv_iload hx hb d (lv_at hl j hv) (h H locs ls hP hD hS hl)
theorem z_lload_n {q : Fin 4} {i : Nat} {x : Int64} (F : ZF E N cc own Ts rm G) (d : decode cc pc = .ok (.lload_n q, 1)) (hi : (q : Nat) = i) (j : Nat) (hv : lv[j]? = some (i, .long x)) (h : Z E N k n w lv (pc + 1) (.long x :: st)) : Z E N k n w lv pc (st) := by
  obtain ⟨p, l, e, R, s, m, args, below, meth, c, D, A, Q⟩ := E
  obtain ⟨hx, hb, hml, hown, hts, hK, hN, hA, hR, hGl, hGd⟩ := F
  intro H locs ls hP hD hS hl
  exact lv_lload_n hx hb d hi (lv_at hl j hv) (h H locs ls hP hD hS hl)
theorem z_lload {i : Nat} {x : Int64} (F : ZF E N cc own Ts rm G) (d : decode cc pc = .ok (.lload i, 2)) (j : Nat) (hv : lv[j]? = some (i, .long x)) (h : Z E N k n w lv (pc + 2) (.long x :: st)) : Z E N k n w lv pc (st) := by
  obtain ⟨p, l, e, R, s, m, args, below, meth, c, D, A, Q⟩ := E
  obtain ⟨hx, hb, hml, hown, hts, hK, hN, hA, hR, hGl, hGd⟩ := F
  intro H locs ls hP hD hS hl
  exact lv_lload hx hb d (lv_at hl j hv) (h H locs ls hP hD hS hl)
theorem z_aload_n {q : Fin 4} {i : Nat} {x : Nat} (F : ZF E N cc own Ts rm G) (d : decode cc pc = .ok (.aload_n q, 1)) (hi : (q : Nat) = i) (j : Nat) (hv : lv[j]? = some (i, .ref x)) (h : Z E N k n w lv (pc + 1) (.ref x :: st)) : Z E N k n w lv pc (st) := by
  obtain ⟨p, l, e, R, s, m, args, below, meth, c, D, A, Q⟩ := E
  obtain ⟨hx, hb, hml, hown, hts, hK, hN, hA, hR, hGl, hGd⟩ := F
  intro H locs ls hP hD hS hl
  exact lv_aload_n hx hb d hi (lv_at hl j hv) (h H locs ls hP hD hS hl)
theorem z_aload {i : Nat} {x : Nat} (F : ZF E N cc own Ts rm G) (d : decode cc pc = .ok (.aload i, 2)) (j : Nat) (hv : lv[j]? = some (i, .ref x)) (h : Z E N k n w lv (pc + 2) (.ref x :: st)) : Z E N k n w lv pc (st) := by
  obtain ⟨p, l, e, R, s, m, args, below, meth, c, D, A, Q⟩ := E
  obtain ⟨hx, hb, hml, hown, hts, hK, hN, hA, hR, hGl, hGd⟩ := F
  intro H locs ls hP hD hS hl
  exact lv_aload hx hb d (lv_at hl j hv) (h H locs ls hP hD hS hl)
theorem z_istore_n {q : Fin 4} {i : Nat} {x : Int32} (lv' : List (Nat × Value)) (F : ZF E N cc own Ts rm G) (d : decode cc pc = .ok (.istore_n q, 1)) (hi : (q : Nat) = i) (hn : i < N) (hv : (i, Value.int x) :: lv.filter (fun q => !(q.1 == i) && !(q.1 + 1 == i && q.2.category == 2)) = lv') (h : Z E N k n w lv' (pc + 1) st) : Z E N k n w lv pc (.int x :: st) := by
  obtain ⟨p, l, e, R, s, m, args, below, meth, c, D, A, Q⟩ := E
  obtain ⟨hx, hb, hml, hown, hts, hK, hN, hA, hR, hGl, hGd⟩ := F
  intro H locs ls hP hD hS hl
  exact lv_istore_n hx hb d hi hl hn hv (fun ls' hl' => h H locs ls' hP hD hS hl')
theorem z_istore {i : Nat} {x : Int32} (lv' : List (Nat × Value)) (F : ZF E N cc own Ts rm G) (d : decode cc pc = .ok (.istore i, 2)) (hn : i < N) (hv : (i, Value.int x) :: lv.filter (fun q => !(q.1 == i) && !(q.1 + 1 == i && q.2.category == 2)) = lv') (h : Z E N k n w lv' (pc + 2) st) : Z E N k n w lv pc (.int x :: st) := by
  obtain ⟨p, l, e, R, s, m, args, below, meth, c, D, A, Q⟩ := E
  obtain ⟨hx, hb, hml, hown, hts, hK, hN, hA, hR, hGl, hGd⟩ := F
  intro H locs ls hP hD hS hl
  exact lv_istore hx hb d hl hn hv (fun ls' hl' => h H locs ls' hP hD hS hl')
theorem z_lstore_n {q : Fin 4} {i : Nat} {x : Int64} (lv' : List (Nat × Value)) (F : ZF E N cc own Ts rm G) (d : decode cc pc = .ok (.lstore_n q, 1)) (hi : (q : Nat) = i) (hn : i + 1 < N) (hv : (i, Value.long x) :: lv.filter (fun q => !(q.1 == i) && (!(q.1 == i + 1) && !(q.1 + 1 == i && q.2.category == 2))) = lv') (h : Z E N k n w lv' (pc + 1) st) : Z E N k n w lv pc (.long x :: st) := by
  obtain ⟨p, l, e, R, s, m, args, below, meth, c, D, A, Q⟩ := E
  obtain ⟨hx, hb, hml, hown, hts, hK, hN, hA, hR, hGl, hGd⟩ := F
  intro H locs ls hP hD hS hl
  exact lv_lstore_n hx hb d hi hl hn hv (fun ls' hl' => h H locs ls' hP hD hS hl')
theorem z_lstore {i : Nat} {x : Int64} (lv' : List (Nat × Value)) (F : ZF E N cc own Ts rm G) (d : decode cc pc = .ok (.lstore i, 2)) (hn : i + 1 < N) (hv : (i, Value.long x) :: lv.filter (fun q => !(q.1 == i) && (!(q.1 == i + 1) && !(q.1 + 1 == i && q.2.category == 2))) = lv') (h : Z E N k n w lv' (pc + 2) st) : Z E N k n w lv pc (.long x :: st) := by
  obtain ⟨p, l, e, R, s, m, args, below, meth, c, D, A, Q⟩ := E
  obtain ⟨hx, hb, hml, hown, hts, hK, hN, hA, hR, hGl, hGd⟩ := F
  intro H locs ls hP hD hS hl
  exact lv_lstore hx hb d hl hn hv (fun ls' hl' => h H locs ls' hP hD hS hl')
theorem z_astore_n {q : Fin 4} {i : Nat} {x : Nat} (lv' : List (Nat × Value)) (F : ZF E N cc own Ts rm G) (d : decode cc pc = .ok (.astore_n q, 1)) (hi : (q : Nat) = i) (hn : i < N) (hv : (i, Value.ref x) :: lv.filter (fun q => !(q.1 == i) && !(q.1 + 1 == i && q.2.category == 2)) = lv') (h : Z E N k n w lv' (pc + 1) st) : Z E N k n w lv pc (.ref x :: st) := by
  obtain ⟨p, l, e, R, s, m, args, below, meth, c, D, A, Q⟩ := E
  obtain ⟨hx, hb, hml, hown, hts, hK, hN, hA, hR, hGl, hGd⟩ := F
  intro H locs ls hP hD hS hl
  exact lv_astore_n hx hb d hi hl hn hv (fun ls' hl' => h H locs ls' hP hD hS hl')
theorem z_astore {i : Nat} {x : Nat} (lv' : List (Nat × Value)) (F : ZF E N cc own Ts rm G) (d : decode cc pc = .ok (.astore i, 2)) (hn : i < N) (hv : (i, Value.ref x) :: lv.filter (fun q => !(q.1 == i) && !(q.1 + 1 == i && q.2.category == 2)) = lv') (h : Z E N k n w lv' (pc + 2) st) : Z E N k n w lv pc (.ref x :: st) := by
  obtain ⟨p, l, e, R, s, m, args, below, meth, c, D, A, Q⟩ := E
  obtain ⟨hx, hb, hml, hown, hts, hK, hN, hA, hR, hGl, hGd⟩ := F
  intro H locs ls hP hD hS hl
  exact lv_astore hx hb d hl hn hv (fun ls' hl' => h H locs ls' hP hD hS hl')
theorem z_iinc {i : Nat} {z : Int} {x v : Int32} (lv' : List (Nat × Value)) (F : ZF E N cc own Ts rm G) (d : decode cc pc = .ok (.iinc i z, 3)) (j : Nat) (hj : lv[j]? = some (i, .int x)) (hv : x + Int32.ofInt z = v) (hn : i < N) (hw : (i, Value.int v) :: lv.filter (fun q => !(q.1 == i) && !(q.1 + 1 == i && q.2.category == 2)) = lv') (h : Z E N k n w lv' (pc + 3) st) : Z E N k n w lv pc st := by
  obtain ⟨p, l, e, R, s, m, args, below, meth, c, D, A, Q⟩ := E
  obtain ⟨hx, hb, hml, hown, hts, hK, hN, hA, hR, hGl, hGd⟩ := F
  intro H locs ls hP hD hS hl
  exact lv_iinc hx hb d hl (k := j) hj hv hn hw (fun ls' hl' => h H locs ls' hP hD hS hl')
theorem z_iadd {x y : Int32} (F : ZF E N cc own Ts rm G) (d : decode cc pc = .ok (.iadd, 1)) (h : Z E N k n w lv (pc + 1) (.int (x + y) :: st)) : Z E N k n w lv pc (.int y :: .int x :: st) := by
  obtain ⟨p, l, e, R, s, m, args, below, meth, c, D, A, Q⟩ := E
  obtain ⟨hx, hb, hml, hown, hts, hK, hN, hA, hR, hGl, hGd⟩ := F
  intro H locs ls hP hD hS hl
  exact lv_iadd hx hb d (h H locs ls hP hD hS hl)
theorem z_isub {x y : Int32} (F : ZF E N cc own Ts rm G) (d : decode cc pc = .ok (.isub, 1)) (h : Z E N k n w lv (pc + 1) (.int (x - y) :: st)) : Z E N k n w lv pc (.int y :: .int x :: st) := by
  obtain ⟨p, l, e, R, s, m, args, below, meth, c, D, A, Q⟩ := E
  obtain ⟨hx, hb, hml, hown, hts, hK, hN, hA, hR, hGl, hGd⟩ := F
  intro H locs ls hP hD hS hl
  exact lv_isub hx hb d (h H locs ls hP hD hS hl)
theorem z_imul {x y : Int32} (F : ZF E N cc own Ts rm G) (d : decode cc pc = .ok (.imul, 1)) (h : Z E N k n w lv (pc + 1) (.int (x * y) :: st)) : Z E N k n w lv pc (.int y :: .int x :: st) := by
  obtain ⟨p, l, e, R, s, m, args, below, meth, c, D, A, Q⟩ := E
  obtain ⟨hx, hb, hml, hown, hts, hK, hN, hA, hR, hGl, hGd⟩ := F
  intro H locs ls hP hD hS hl
  exact lv_imul hx hb d (h H locs ls hP hD hS hl)
theorem z_iand {x y : Int32} (F : ZF E N cc own Ts rm G) (d : decode cc pc = .ok (.iand, 1)) (h : Z E N k n w lv (pc + 1) (.int (x &&& y) :: st)) : Z E N k n w lv pc (.int y :: .int x :: st) := by
  obtain ⟨p, l, e, R, s, m, args, below, meth, c, D, A, Q⟩ := E
  obtain ⟨hx, hb, hml, hown, hts, hK, hN, hA, hR, hGl, hGd⟩ := F
  intro H locs ls hP hD hS hl
  exact lv_iand hx hb d (h H locs ls hP hD hS hl)
theorem z_ior {x y : Int32} (F : ZF E N cc own Ts rm G) (d : decode cc pc = .ok (.ior, 1)) (h : Z E N k n w lv (pc + 1) (.int (x ||| y) :: st)) : Z E N k n w lv pc (.int y :: .int x :: st) := by
  obtain ⟨p, l, e, R, s, m, args, below, meth, c, D, A, Q⟩ := E
  obtain ⟨hx, hb, hml, hown, hts, hK, hN, hA, hR, hGl, hGd⟩ := F
  intro H locs ls hP hD hS hl
  exact lv_ior hx hb d (h H locs ls hP hD hS hl)
theorem z_ixor {x y : Int32} (F : ZF E N cc own Ts rm G) (d : decode cc pc = .ok (.ixor, 1)) (h : Z E N k n w lv (pc + 1) (.int (x ^^^ y) :: st)) : Z E N k n w lv pc (.int y :: .int x :: st) := by
  obtain ⟨p, l, e, R, s, m, args, below, meth, c, D, A, Q⟩ := E
  obtain ⟨hx, hb, hml, hown, hts, hK, hN, hA, hR, hGl, hGd⟩ := F
  intro H locs ls hP hD hS hl
  exact lv_ixor hx hb d (h H locs ls hP hD hS hl)
theorem z_ishl {x y : Int32} (F : ZF E N cc own Ts rm G) (d : decode cc pc = .ok (.ishl, 1)) (h : Z E N k n w lv (pc + 1) (.int (x <<< (y &&& 31)) :: st)) : Z E N k n w lv pc (.int y :: .int x :: st) := by
  obtain ⟨p, l, e, R, s, m, args, below, meth, c, D, A, Q⟩ := E
  obtain ⟨hx, hb, hml, hown, hts, hK, hN, hA, hR, hGl, hGd⟩ := F
  intro H locs ls hP hD hS hl
  exact lv_ishl hx hb d (h H locs ls hP hD hS hl)
theorem z_ishr {x y : Int32} (F : ZF E N cc own Ts rm G) (d : decode cc pc = .ok (.ishr, 1)) (h : Z E N k n w lv (pc + 1) (.int (x >>> (y &&& 31)) :: st)) : Z E N k n w lv pc (.int y :: .int x :: st) := by
  obtain ⟨p, l, e, R, s, m, args, below, meth, c, D, A, Q⟩ := E
  obtain ⟨hx, hb, hml, hown, hts, hK, hN, hA, hR, hGl, hGd⟩ := F
  intro H locs ls hP hD hS hl
  exact lv_ishr hx hb d (h H locs ls hP hD hS hl)
theorem z_iushr {x y : Int32} (F : ZF E N cc own Ts rm G) (d : decode cc pc = .ok (.iushr, 1)) (h : Z E N k n w lv (pc + 1) (.int ((x.toUInt32 >>> (y.toUInt32 &&& Int32.toUInt32 31)).toInt32) :: st)) : Z E N k n w lv pc (.int y :: .int x :: st) := by
  obtain ⟨p, l, e, R, s, m, args, below, meth, c, D, A, Q⟩ := E
  obtain ⟨hx, hb, hml, hown, hts, hK, hN, hA, hR, hGl, hGd⟩ := F
  intro H locs ls hP hD hS hl
  exact lv_iushr hx hb d rfl (h H locs ls hP hD hS hl)
theorem z_idiv {x y : Int32} (F : ZF E N cc own Ts rm G) (d : decode cc pc = .ok (.idiv, 1)) (hne : ¬ y = 0) (h : Z E N k n w lv (pc + 1) (.int (x / y) :: st)) : Z E N k n w lv pc (.int y :: .int x :: st) := by
  obtain ⟨p, l, e, R, s, m, args, below, meth, c, D, A, Q⟩ := E
  obtain ⟨hx, hb, hml, hown, hts, hK, hN, hA, hR, hGl, hGd⟩ := F
  intro H locs ls hP hD hS hl
  exact lv_idiv hx hb d hne (h H locs ls hP hD hS hl)
theorem z_irem {x y : Int32} (F : ZF E N cc own Ts rm G) (d : decode cc pc = .ok (.irem, 1)) (hne : ¬ y = 0) (h : Z E N k n w lv (pc + 1) (.int (x - x / y * y) :: st)) : Z E N k n w lv pc (.int y :: .int x :: st) := by
  obtain ⟨p, l, e, R, s, m, args, below, meth, c, D, A, Q⟩ := E
  obtain ⟨hx, hb, hml, hown, hts, hK, hN, hA, hR, hGl, hGd⟩ := F
  intro H locs ls hP hD hS hl
  exact lv_irem hx hb d hne (h H locs ls hP hD hS hl)
theorem z_ineg {x : Int32} (F : ZF E N cc own Ts rm G) (d : decode cc pc = .ok (.ineg, 1)) (h : Z E N k n w lv (pc + 1) (.int (-x) :: st)) : Z E N k n w lv pc (.int x :: st) := by
  obtain ⟨p, l, e, R, s, m, args, below, meth, c, D, A, Q⟩ := E
  obtain ⟨hx, hb, hml, hown, hts, hK, hN, hA, hR, hGl, hGd⟩ := F
  intro H locs ls hP hD hS hl
  exact lv_ineg hx hb d (h H locs ls hP hD hS hl)
theorem z_ladd {x y : Int64} (F : ZF E N cc own Ts rm G) (d : decode cc pc = .ok (.ladd, 1)) (h : Z E N k n w lv (pc + 1) (.long (x + y) :: st)) : Z E N k n w lv pc (.long y :: .long x :: st) := by
  obtain ⟨p, l, e, R, s, m, args, below, meth, c, D, A, Q⟩ := E
  obtain ⟨hx, hb, hml, hown, hts, hK, hN, hA, hR, hGl, hGd⟩ := F
  intro H locs ls hP hD hS hl
  exact lv_ladd hx hb d (h H locs ls hP hD hS hl)
theorem z_lsub {x y : Int64} (F : ZF E N cc own Ts rm G) (d : decode cc pc = .ok (.lsub, 1)) (h : Z E N k n w lv (pc + 1) (.long (x - y) :: st)) : Z E N k n w lv pc (.long y :: .long x :: st) := by
  obtain ⟨p, l, e, R, s, m, args, below, meth, c, D, A, Q⟩ := E
  obtain ⟨hx, hb, hml, hown, hts, hK, hN, hA, hR, hGl, hGd⟩ := F
  intro H locs ls hP hD hS hl
  exact lv_lsub hx hb d (h H locs ls hP hD hS hl)
theorem z_lmul {x y : Int64} (F : ZF E N cc own Ts rm G) (d : decode cc pc = .ok (.lmul, 1)) (h : Z E N k n w lv (pc + 1) (.long (x * y) :: st)) : Z E N k n w lv pc (.long y :: .long x :: st) := by
  obtain ⟨p, l, e, R, s, m, args, below, meth, c, D, A, Q⟩ := E
  obtain ⟨hx, hb, hml, hown, hts, hK, hN, hA, hR, hGl, hGd⟩ := F
  intro H locs ls hP hD hS hl
  exact lv_lmul hx hb d (h H locs ls hP hD hS hl)
theorem z_ldiv {x y : Int64} (F : ZF E N cc own Ts rm G) (d : decode cc pc = .ok (.ldiv, 1)) (hne : ¬ y = 0) (h : Z E N k n w lv (pc + 1) (.long (x / y) :: st)) : Z E N k n w lv pc (.long y :: .long x :: st) := by
  obtain ⟨p, l, e, R, s, m, args, below, meth, c, D, A, Q⟩ := E
  obtain ⟨hx, hb, hml, hown, hts, hK, hN, hA, hR, hGl, hGd⟩ := F
  intro H locs ls hP hD hS hl
  exact lv_ldiv hx hb d hne (h H locs ls hP hD hS hl)
theorem z_lrem {x y : Int64} (F : ZF E N cc own Ts rm G) (d : decode cc pc = .ok (.lrem, 1)) (hne : ¬ y = 0) (h : Z E N k n w lv (pc + 1) (.long (x - x / y * y) :: st)) : Z E N k n w lv pc (.long y :: .long x :: st) := by
  obtain ⟨p, l, e, R, s, m, args, below, meth, c, D, A, Q⟩ := E
  obtain ⟨hx, hb, hml, hown, hts, hK, hN, hA, hR, hGl, hGd⟩ := F
  intro H locs ls hP hD hS hl
  exact lv_lrem hx hb d hne (h H locs ls hP hD hS hl)
theorem z_lcmp {x y : Int64} (F : ZF E N cc own Ts rm G) (d : decode cc pc = .ok (.lcmp, 1)) (h : Z E N k n w lv (pc + 1) (.int (lg_cmp x y) :: st)) : Z E N k n w lv pc (.long y :: .long x :: st) := by
  obtain ⟨p, l, e, R, s, m, args, below, meth, c, D, A, Q⟩ := E
  obtain ⟨hx, hb, hml, hown, hts, hK, hN, hA, hR, hGl, hGd⟩ := F
  intro H locs ls hP hD hS hl
  exact W.lcmp hx hb d (h H locs ls hP hD hS hl)
theorem z_i2l {x : Int32} (F : ZF E N cc own Ts rm G) (d : decode cc pc = .ok (.i2l, 1)) (h : Z E N k n w lv (pc + 1) (.long x.toInt64 :: st)) : Z E N k n w lv pc (.int x :: st) := by
  obtain ⟨p, l, e, R, s, m, args, below, meth, c, D, A, Q⟩ := E
  obtain ⟨hx, hb, hml, hown, hts, hK, hN, hA, hR, hGl, hGd⟩ := F
  intro H locs ls hP hD hS hl
  exact lv_i2l hx hb d rfl (h H locs ls hP hD hS hl)
theorem z_dup {v : Value} (F : ZF E N cc own Ts rm G) (d : decode cc pc = .ok (.dup, 1)) (hc : v.category = 1) (h : Z E N k n w lv (pc + 1) (v :: v :: st)) : Z E N k n w lv pc (v :: st) := by
  obtain ⟨p, l, e, R, s, m, args, below, meth, c, D, A, Q⟩ := E
  obtain ⟨hx, hb, hml, hown, hts, hK, hN, hA, hR, hGl, hGd⟩ := F
  intro H locs ls hP hD hS hl
  exact lv_dup hx hb d hc (h H locs ls hP hD hS hl)
theorem z_dup2 {v u : Value} (F : ZF E N cc own Ts rm G) (d : decode cc pc = .ok (.dup2, 1)) (hc : v.category = 1) (hc2 : u.category = 1) (h : Z E N k n w lv (pc + 1) (v :: u :: v :: u :: st)) : Z E N k n w lv pc (v :: u :: st) := by
  obtain ⟨p, l, e, R, s, m, args, below, meth, c, D, A, Q⟩ := E
  obtain ⟨hx, hb, hml, hown, hts, hK, hN, hA, hR, hGl, hGd⟩ := F
  intro H locs ls hP hD hS hl
  exact lv_dup2_11 hx hb d hc hc2 (h H locs ls hP hD hS hl)
theorem z_if_eq {x : Int32} {off : Int} (tgt : Nat) (F : ZF E N cc own Ts rm G) (d : decode cc pc = .ok (.ifCond .eq off, 3)) (ht : (pc : Int) + off = (tgt : Int)) (h1 : x = 0 → Z E N k n w lv tgt st) (h2 : ¬ x = 0 → Z E N k n w lv (pc + 3) st) : Z E N k n w lv pc (.int x :: st) := by
  obtain ⟨p, l, e, R, s, m, args, below, meth, c, D, A, Q⟩ := E
  obtain ⟨hx, hb, hml, hown, hts, hK, hN, hA, hR, hGl, hGd⟩ := F
  intro H locs ls hP hD hS hl
  exact lv_if_eq hx hb d ht (fun c9 => h1 c9 H locs ls hP hD hS hl) (fun c9 => h2 c9 H locs ls hP hD hS hl)
theorem z_if_ne {x : Int32} {off : Int} (tgt : Nat) (F : ZF E N cc own Ts rm G) (d : decode cc pc = .ok (.ifCond .ne off, 3)) (ht : (pc : Int) + off = (tgt : Int)) (h1 : ¬ x = 0 → Z E N k n w lv tgt st) (h2 : x = 0 → Z E N k n w lv (pc + 3) st) : Z E N k n w lv pc (.int x :: st) := by
  obtain ⟨p, l, e, R, s, m, args, below, meth, c, D, A, Q⟩ := E
  obtain ⟨hx, hb, hml, hown, hts, hK, hN, hA, hR, hGl, hGd⟩ := F
  intro H locs ls hP hD hS hl
  exact lv_if_ne hx hb d ht (fun c9 => h1 c9 H locs ls hP hD hS hl) (fun c9 => h2 c9 H locs ls hP hD hS hl)
theorem z_if_lt {x : Int32} {off : Int} (tgt : Nat) (F : ZF E N cc own Ts rm G) (d : decode cc pc = .ok (.ifCond .lt off, 3)) (ht : (pc : Int) + off = (tgt : Int)) (h1 : x < 0 → Z E N k n w lv tgt st) (h2 : ¬ x < 0 → Z E N k n w lv (pc + 3) st) : Z E N k n w lv pc (.int x :: st) := by
  obtain ⟨p, l, e, R, s, m, args, below, meth, c, D, A, Q⟩ := E
  obtain ⟨hx, hb, hml, hown, hts, hK, hN, hA, hR, hGl, hGd⟩ := F
  intro H locs ls hP hD hS hl
  exact lv_if_lt hx hb d ht (fun c9 => h1 c9 H locs ls hP hD hS hl) (fun c9 => h2 c9 H locs ls hP hD hS hl)
theorem z_if_ge {x : Int32} {off : Int} (tgt : Nat) (F : ZF E N cc own Ts rm G) (d : decode cc pc = .ok (.ifCond .ge off, 3)) (ht : (pc : Int) + off = (tgt : Int)) (h1 : 0 ≤ x → Z E N k n w lv tgt st) (h2 : ¬ 0 ≤ x → Z E N k n w lv (pc + 3) st) : Z E N k n w lv pc (.int x :: st) := by
  obtain ⟨p, l, e, R, s, m, args, below, meth, c, D, A, Q⟩ := E
  obtain ⟨hx, hb, hml, hown, hts, hK, hN, hA, hR, hGl, hGd⟩ := F
  intro H locs ls hP hD hS hl
  exact lv_if_ge hx hb d ht (fun c9 => h1 c9 H locs ls hP hD hS hl) (fun c9 => h2 c9 H locs ls hP hD hS hl)
theorem z_if_gt {x : Int32} {off : Int} (tgt : Nat) (F : ZF E N cc own Ts rm G) (d : decode cc pc = .ok (.ifCond .gt off, 3)) (ht : (pc : Int) + off = (tgt : Int)) (h1 : 0 < x → Z E N k n w lv tgt st) (h2 : ¬ 0 < x → Z E N k n w lv (pc + 3) st) : Z E N k n w lv pc (.int x :: st) := by
  obtain ⟨p, l, e, R, s, m, args, below, meth, c, D, A, Q⟩ := E
  obtain ⟨hx, hb, hml, hown, hts, hK, hN, hA, hR, hGl, hGd⟩ := F
  intro H locs ls hP hD hS hl
  exact lv_if_gt hx hb d ht (fun c9 => h1 c9 H locs ls hP hD hS hl) (fun c9 => h2 c9 H locs ls hP hD hS hl)
theorem z_if_le {x : Int32} {off : Int} (tgt : Nat) (F : ZF E N cc own Ts rm G) (d : decode cc pc = .ok (.ifCond .le off, 3)) (ht : (pc : Int) + off = (tgt : Int)) (h1 : x ≤ 0 → Z E N k n w lv tgt st) (h2 : ¬ x ≤ 0 → Z E N k n w lv (pc + 3) st) : Z E N k n w lv pc (.int x :: st) := by
  obtain ⟨p, l, e, R, s, m, args, below, meth, c, D, A, Q⟩ := E
  obtain ⟨hx, hb, hml, hown, hts, hK, hN, hA, hR, hGl, hGd⟩ := F
  intro H locs ls hP hD hS hl
  exact lv_if_le hx hb d ht (fun c9 => h1 c9 H locs ls hP hD hS hl) (fun c9 => h2 c9 H locs ls hP hD hS hl)
theorem z_icmp_eq {x y : Int32} {off : Int} (tgt : Nat) (F : ZF E N cc own Ts rm G) (d : decode cc pc = .ok (.if_icmp .eq off, 3)) (ht : (pc : Int) + off = (tgt : Int)) (h1 : x = y → Z E N k n w lv tgt st) (h2 : ¬ x = y → Z E N k n w lv (pc + 3) st) : Z E N k n w lv pc (.int y :: .int x :: st) := by
  obtain ⟨p, l, e, R, s, m, args, below, meth, c, D, A, Q⟩ := E
  obtain ⟨hx, hb, hml, hown, hts, hK, hN, hA, hR, hGl, hGd⟩ := F
  intro H locs ls hP hD hS hl
  exact lv_icmp_eq hx hb d ht (fun c9 => h1 c9 H locs ls hP hD hS hl) (fun c9 => h2 c9 H locs ls hP hD hS hl)
theorem z_icmp_ne {x y : Int32} {off : Int} (tgt : Nat) (F : ZF E N cc own Ts rm G) (d : decode cc pc = .ok (.if_icmp .ne off, 3)) (ht : (pc : Int) + off = (tgt : Int)) (h1 : ¬ x = y → Z E N k n w lv tgt st) (h2 : x = y → Z E N k n w lv (pc + 3) st) : Z E N k n w lv pc (.int y :: .int x :: st) := by
  obtain ⟨p, l, e, R, s, m, args, below, meth, c, D, A, Q⟩ := E
  obtain ⟨hx, hb, hml, hown, hts, hK, hN, hA, hR, hGl, hGd⟩ := F
  intro H locs ls hP hD hS hl
  exact lv_icmp_ne hx hb d ht (fun c9 => h1 c9 H locs ls hP hD hS hl) (fun c9 => h2 c9 H locs ls hP hD hS hl)
theorem z_icmp_lt {x y : Int32} {off : Int} (tgt : Nat) (F : ZF E N cc own Ts rm G) (d : decode cc pc = .ok (.if_icmp .lt off, 3)) (ht : (pc : Int) + off = (tgt : Int)) (h1 : x < y → Z E N k n w lv tgt st) (h2 : ¬ x < y → Z E N k n w lv (pc + 3) st) : Z E N k n w lv pc (.int y :: .int x :: st) := by
  obtain ⟨p, l, e, R, s, m, args, below, meth, c, D, A, Q⟩ := E
  obtain ⟨hx, hb, hml, hown, hts, hK, hN, hA, hR, hGl, hGd⟩ := F
  intro H locs ls hP hD hS hl
  exact lv_icmp_lt hx hb d ht (fun c9 => h1 c9 H locs ls hP hD hS hl) (fun c9 => h2 c9 H locs ls hP hD hS hl)
theorem z_icmp_ge {x y : Int32} {off : Int} (tgt : Nat) (F : ZF E N cc own Ts rm G) (d : decode cc pc = .ok (.if_icmp .ge off, 3)) (ht : (pc : Int) + off = (tgt : Int)) (h1 : y ≤ x → Z E N k n w lv tgt st) (h2 : ¬ y ≤ x → Z E N k n w lv (pc + 3) st) : Z E N k n w lv pc (.int y :: .int x :: st) := by
  obtain ⟨p, l, e, R, s, m, args, below, meth, c, D, A, Q⟩ := E
  obtain ⟨hx, hb, hml, hown, hts, hK, hN, hA, hR, hGl, hGd⟩ := F
  intro H locs ls hP hD hS hl
  exact lv_icmp_ge hx hb d ht (fun c9 => h1 c9 H locs ls hP hD hS hl) (fun c9 => h2 c9 H locs ls hP hD hS hl)
theorem z_icmp_gt {x y : Int32} {off : Int} (tgt : Nat) (F : ZF E N cc own Ts rm G) (d : decode cc pc = .ok (.if_icmp .gt off, 3)) (ht : (pc : Int) + off = (tgt : Int)) (h1 : y < x → Z E N k n w lv tgt st) (h2 : ¬ y < x → Z E N k n w lv (pc + 3) st) : Z E N k n w lv pc (.int y :: .int x :: st) := by
  obtain ⟨p, l, e, R, s, m, args, below, meth, c, D, A, Q⟩ := E
  obtain ⟨hx, hb, hml, hown, hts, hK, hN, hA, hR, hGl, hGd⟩ := F
  intro H locs ls hP hD hS hl
  exact lv_icmp_gt hx hb d ht (fun c9 => h1 c9 H locs ls hP hD hS hl) (fun c9 => h2 c9 H locs ls hP hD hS hl)
theorem z_icmp_le {x y : Int32} {off : Int} (tgt : Nat) (F : ZF E N cc own Ts rm G) (d : decode cc pc = .ok (.if_icmp .le off, 3)) (ht : (pc : Int) + off = (tgt : Int)) (h1 : x ≤ y → Z E N k n w lv tgt st) (h2 : ¬ x ≤ y → Z E N k n w lv (pc + 3) st) : Z E N k n w lv pc (.int y :: .int x :: st) := by
  obtain ⟨p, l, e, R, s, m, args, below, meth, c, D, A, Q⟩ := E
  obtain ⟨hx, hb, hml, hown, hts, hK, hN, hA, hR, hGl, hGd⟩ := F
  intro H locs ls hP hD hS hl
  exact lv_icmp_le hx hb d ht (fun c9 => h1 c9 H locs ls hP hD hS hl) (fun c9 => h2 c9 H locs ls hP hD hS hl)
theorem z_goto {off : Int} (tgt : Nat) (F : ZF E N cc own Ts rm G) (d : decode cc pc = .ok (.goto off, 3)) (ht : (pc : Int) + off = (tgt : Int)) (h : Z E N k n w lv tgt st) : Z E N k n w lv pc st := by
  obtain ⟨p, l, e, R, s, m, args, below, meth, c, D, A, Q⟩ := E
  obtain ⟨hx, hb, hml, hown, hts, hK, hN, hA, hR, hGl, hGd⟩ := F
  intro H locs ls hP hD hS hl
  exact lv_goto hx hb d ht (h H locs ls hP hD hS hl)
theorem z_tableOut {dflt lo hi : Int} {offs : Array Int} {len : Nat} {x : Int32} (tgt : Nat) (F : ZF E N cc own Ts rm G) (d : decode cc pc = .ok (.tableswitch dflt lo hi offs, len)) (hv : x.toInt < lo ∨ hi < x.toInt) (ht : (pc : Int) + dflt = (tgt : Int)) (h : Z E N k n w lv tgt st) : Z E N k n w lv pc (.int x :: st) := by
  obtain ⟨p, l, e, R, s, m, args, below, meth, c, D, A, Q⟩ := E
  obtain ⟨hx, hb, hml, hown, hts, hK, hN, hA, hR, hGl, hGd⟩ := F
  intro H locs ls hP hD hS hl
  exact lv_tableOut hx hb d hv ht (h H locs ls hP hD hS hl)
theorem z_tableIn {dflt lo hi : Int} {offs : Array Int} {len : Nat} {x : Int32} {off : Int} (tgt : Nat) (F : ZF E N cc own Ts rm G) (d : decode cc pc = .ok (.tableswitch dflt lo hi offs, len)) (h1 : ¬ x.toInt < lo) (h2 : ¬ hi < x.toInt) (ho : offs[(x.toInt - lo).toNat]? = some off) (ht : (pc : Int) + off = (tgt : Int)) (h : Z E N k n w lv tgt st) : Z E N k n w lv pc (.int x :: st) := by
  obtain ⟨p, l, e, R, s, m, args, below, meth, c, D, A, Q⟩ := E
  obtain ⟨hx, hb, hml, hown, hts, hK, hN, hA, hR, hGl, hGd⟩ := F
  intro H locs ls hP hD hS hl
  exact lv_tableIn hx hb d h1 h2 ho ht (h H locs ls hP hD hS hl)
theorem z_lookup {dflt : Int} {ps : Array (Int × Int)} {len : Nat} {x : Int32} {off : Int} (tgt : Nat) (F : ZF E N cc own Ts rm G) (d : decode cc pc = .ok (.lookupswitch dflt ps, len)) (hp : (ps.toList.zip (ps.toList.drop 1)).all (fun (a, next) => a.1 < next.1) = true) (ho : Op.lookupswitch.offset ps.toList dflt x.toInt = off) (ht : (pc : Int) + off = (tgt : Int)) (h : Z E N k n w lv tgt st) : Z E N k n w lv pc (.int x :: st) := by
  obtain ⟨p, l, e, R, s, m, args, below, meth, c, D, A, Q⟩ := E
  obtain ⟨hx, hb, hml, hown, hts, hK, hN, hA, hR, hGl, hGd⟩ := F
  intro H locs ls hP hD hS hl
  exact lv_lookup hx hb d hp ho ht (h H locs ls hP hD hS hl)
theorem z_topi {x : Int32} (h : ∀ y : Int32, y = x → Z E N k n w lv pc (.int y :: st)) : Z E N k n w lv pc (.int x :: st) := h x rfl
theorem z_topl {x : Int64} (h : ∀ y : Int64, y = x → Z E N k n w lv pc (.long y :: st)) : Z E N k n w lv pc (.long x :: st) := h x rfl
theorem z_lv {lv' : List (Nat × Value)} (ks : List Nat) (hv : lv_pick lv ks = lv') (h : Z E N k n w lv' pc st) : Z E N k n w lv pc st := by
  obtain ⟨p, l, e, R, s, m, args, below, meth, c, D, A, Q⟩ := E
  intro H locs ls hP hD hS hl
  exact h H locs ls hP hD hS (lv_sub hl ks hv)
theorem z_w {w' : va_W} (e : w = w') (h : Z E N k n w' lv pc st) : Z E N k n w lv pc st := by rw [e]; exact h
theorem z_get {C : String} {T : u_T} {M ci i : Nat} {ref : String} {a : Nat} {fs : List Value} {v : Value} (F : ZF E N cc own Ts rm G) (hin : ∀ x ∈ u_ws C T M, x ∈ Ts) (q0 : Nat) (he : w[q0]? = some (a, .inr (ci, fs))) (hc : vwCl[ci]? = some (C, T, M)) (j : Nat) (hj : j < M) (hlink : ZW E (.fieldLink own i ref (T j).2.1 (T j).2.2.1)) (hr : (T j).1 = ref) (hv : fs[j]? = some v) (d : decode cc pc = .ok (.getfield i, 3)) (h : Z E N k n w lv (pc + 3) (v :: st)) : Z E N k n w lv pc (.ref a :: st) := by
  obtain ⟨p, l, e, R, s, m, args, below, meth, c, D, A, Q⟩ := E
  obtain ⟨hx, hb, hml, hown, hts, hK, hN, hA, hR, hGl, hGd⟩ := F
  intro H locs ls hP hD hS hl
  subst hr
  exact va_get hx hb hts hin hown hK hP q0 he hc j hj hlink (fun _ h9 => h9) hv d (h H locs ls hP hD hS hl)
theorem z_put {C : String} {T : u_T} {M ci i : Nat} {ref : String} {a : Nat} {fs : List Value} {v : Value} {ty : FieldType} (w' : va_W) (F : ZF E N cc own Ts rm G) (hin : ∀ x ∈ u_ws C T M, x ∈ Ts) (ty0 : Nat → FieldType) (hty : ∀ k, k < M → parseFieldDescriptor (T k).2.2.1 = some (ty0 k)) (hnm : ∀ a, a < M → ∀ b, b < M → a ≠ b → (T a).2.1 ≠ (T b).2.1) (q0 : Nat) (he : w[q0]? = some (a, .inr (ci, fs))) (hc : vwCl[ci]? = some (C, T, M)) (j : Nat) (hj : j < M) (hlink : ZW E (.fieldLink own i ref (T j).2.1 (T j).2.2.1)) (hr : (T j).1 = ref) (hfin : (T j).2.2.2 = false) (he0 : ty0 j = ty) (hn : narrow ty v = v) (hfit : fits ty v = true) (hl9 : j < fs.length) (hw : w.set q0 (a, .inr (ci, fs.set j v)) = w') (d : decode cc pc = .ok (.putfield i, 3)) (h : Z E N k n w' lv (pc + 3) st) : Z E N k n w lv pc (v :: .ref a :: st) := by
  obtain ⟨p, l, e, R, s, m, args, below, meth, c, D, A, Q⟩ := E
  obtain ⟨hx, hb, hml, hown, hts, hK, hN, hA, hR, hGl, hGd⟩ := F
  intro H locs ls hP hD hS hl
  subst hr
  subst hw
  exact va_put hx hb hts hin ty0 hty hnm hown hK hP hD hS q0 he hc j hj hlink (fun _ h9 => h9) hfin (by rw [hty j hj, he0]) hn hfit hl9 d (fun H1 locs1 hP1 hD1 hS1 => h H1 locs1 ls hP1 hD1 hS1 hl)
theorem z_iald {a M : Nat} {f : Nat → Int32} {i : Int32} (F : ZF E N cc own Ts rm G) (q0 : Nat) (ha : w[q0]? = some (a, .inl (G.2.2.1, M, .inl f))) (hi : vp_in i M) (d : decode cc pc = .ok (.iaload, 1)) (h : Z E N k n w lv (pc + 1) (.int (f i.toNatClampNeg) :: st)) : Z E N k n w lv pc (.int i :: .ref a :: st) := by
  obtain ⟨p, l, e, R, s, m, args, below, meth, c, D, A, Q⟩ := E
  obtain ⟨hx, hb, hml, hown, hts, hK, hN, hA, hR, hGl, hGd⟩ := F
  intro H locs ls hP hD hS hl
  exact va_iald hx hb hK hP q0 0 ha rfl hi d (h H locs ls hP hD hS hl)
theorem z_zald {a M : Nat} {f : Nat → Int32} {i : Int32} (F : ZF E N cc own Ts rm G) (q0 : Nat) (ha : w[q0]? = some (a, .inl (G.2.2.2, M, .inl f))) (hi : vp_in i M) (d : decode cc pc = .ok (.baload, 1)) (h : Z E N k n w lv (pc + 1) (.int (f i.toNatClampNeg) :: st)) : Z E N k n w lv pc (.int i :: .ref a :: st) := by
  obtain ⟨p, l, e, R, s, m, args, below, meth, c, D, A, Q⟩ := E
  obtain ⟨hx, hb, hml, hown, hts, hK, hN, hA, hR, hGl, hGd⟩ := F
  intro H locs ls hP hD hS hl
  exact va_zald hx hb hK hP q0 1 ha rfl hi d (h H locs ls hP hD hS hl)
theorem z_iast {a M : Nat} {f : Nat → Int32} {i x : Int32} (w' : va_W) (F : ZF E N cc own Ts rm G) (q0 : Nat) (ha : w[q0]? = some (a, .inl (G.2.2.1, M, .inl f))) (hi : vp_in i M) (hw : w.set q0 (a, .inl (G.2.2.1, M, .inl (upd f i.toNatClampNeg x))) = w') (d : decode cc pc = .ok (.iastore, 1)) (h : Z E N k n w' lv (pc + 1) st) : Z E N k n w lv pc (.int x :: .int i :: .ref a :: st) := by
  obtain ⟨p, l, e, R, s, m, args, below, meth, c, D, A, Q⟩ := E
  obtain ⟨hx, hb, hml, hown, hts, hK, hN, hA, hR, hGl, hGd⟩ := F
  intro H locs ls hP hD hS hl
  subst hw
  exact va_iast hx hb hK hP hD hS q0 0 ha rfl hi d (fun H1 locs1 hP1 hD1 hS1 => h H1 locs1 ls hP1 hD1 hS1 hl)
theorem z_zast {a M : Nat} {f : Nat → Int32} {i x : Int32} (w' : va_W) (F : ZF E N cc own Ts rm G) (q0 : Nat) (ha : w[q0]? = some (a, .inl (G.2.2.2, M, .inl f))) (hi : vp_in i M) (hx9 : vp_nar .boolean x = x) (hw : w.set q0 (a, .inl (G.2.2.2, M, .inl (upd f i.toNatClampNeg x))) = w') (d : decode cc pc = .ok (.bastore, 1)) (h : Z E N k n w' lv (pc + 1) st) : Z E N k n w lv pc (.int x :: .int i :: .ref a :: st) := by
  obtain ⟨p, l, e, R, s, m, args, below, meth, c, D, A, Q⟩ := E
  obtain ⟨hx, hb, hml, hown, hts, hK, hN, hA, hR, hGl, hGd⟩ := F
  intro H locs ls hP hD hS hl
  subst hw
  refine va_zast hx hb hK hP hD hS q0 1 ha rfl hi d (fun H1 locs1 hP1 hD1 hS1 => ?_)
  rw [hx9] at hP1 hD1
  exact h H1 locs1 ls hP1 hD1 hS1 hl
theorem z_max {i : Nat} {x y : Int32} (F : ZF E N cc own Ts rm G) (h1 : ZW E (.methodLink own i Lib.Math.max.name)) (h2 : ZW E (.static Lib.Math.max.name)) (h3 : ZW E (.initialized "java/lang/Math")) (h4 : ZW E (.code Lib.Math.max.name Lib.Math.max.code 2 (some .int))) (hr : 1 ≤ rm.frames ∧ (st.map fun v => v.category).sum + 13 ≤ rm.locals ∧ k ≤ rm.cells ∧ n ≤ rm.slots) (d : decode cc pc = .ok (.invokestatic i, 3)) (h : Z E N k n w lv (pc + 3) (.int (if x < y then y else x) :: st)) : Z E N k n w lv pc (.int y :: .int x :: st) := by
  obtain ⟨p, l, e, R, s, m, args, below, meth, c, D, A, Q⟩ := E
  obtain ⟨hx, hb, hml, hown, hts, hK, hN, hA, hR, hGl, hGd⟩ := F
  intro H locs ls hP hD hS hl
  subst hR
  exact va_mmax hx hb (hml.trans hl.1.symm) hown h1 h2 h3 h4 hr.1 hr.2.1 hr.2.2.1 hr.2.2.2 d (h H locs ls hP hD hS hl)
theorem z_abs {i : Nat} {x : Int32} (F : ZF E N cc own Ts rm G) (h1 : ZW E (.methodLink own i Lib.Math.abs.name)) (h2 : ZW E (.static Lib.Math.abs.name)) (h3 : ZW E (.initialized "java/lang/Math")) (h4 : ZW E (.code Lib.Math.abs.name Lib.Math.abs.code 1 (some .int))) (hr : 1 ≤ rm.frames ∧ (st.map fun v => v.category).sum + 13 ≤ rm.locals ∧ k ≤ rm.cells ∧ n ≤ rm.slots) (d : decode cc pc = .ok (.invokestatic i, 3)) (h : Z E N k n w lv (pc + 3) (.int (if 0 ≤ x then x else 0 - x) :: st)) : Z E N k n w lv pc (.int x :: st) := by
  obtain ⟨p, l, e, R, s, m, args, below, meth, c, D, A, Q⟩ := E
  obtain ⟨hx, hb, hml, hown, hts, hK, hN, hA, hR, hGl, hGd⟩ := F
  intro H locs ls hP hD hS hl
  subst hR
  exact va_mabs hx hb (hml.trans hl.1.symm) hown h1 h2 h3 h4 hr.1 hr.2.1 hr.2.2.1 hr.2.2.2 d (h H locs ls hP hD hS hl)
theorem z_copy {a a0 n0 n1 i : Nat} {f g : Nat → Int32} {v : Int32} (M : Nat) (w' : va_W) (F : ZF E N cc own Ts rm G) (h1 : ZW E (.methodLink own i arraycopyName)) (h2 : ZW E (.native arraycopyName)) (h3 : ZW E (.static arraycopyName)) (h4 : ZW E (.initialized "java/lang/System")) (q0 q1 : Nat) (ha0 : w[q0]? = some (a0, .inl (G.2.2.1, n0, .inl f))) (ha1 : w[q1]? = some (a, .inl (G.2.2.1, n1, .inl g))) (hv : v = nI M) (hM : M < 2 ^ 31) (hb0 : M ≤ n0) (hb1 : M ≤ n1) (hr : 1 ≤ rm.frames ∧ (st.map fun v => v.category).sum + (nativeFrameWords "java/lang/System" "arraycopy" 5 + 11) ≤ rm.locals) (hw : w.set q1 (a, .inl (G.2.2.1, n1, .inl (va_cpy f g 0 0 M))) = w') (d : decode cc pc = .ok (.invokestatic i, 3)) (h : Z E N k n w' lv (pc + 3) st) : Z E N k n w lv pc (.int v :: .int 0 :: .ref a :: .int 0 :: .ref a0 :: st) := by
  obtain ⟨p, l, e, R, s, m, args, below, meth, c, D, A, Q⟩ := E
  obtain ⟨hx, hb, hml, hown, hts, hK, hN, hA, hR, hGl, hGd⟩ := F
  intro H locs ls hP hD hS hl
  subst hR
  subst hw
  subst hv
  have hc : (nI M).toNatClampNeg = M := nI_clamp hM
  refine va_copyi hx hb (hml.trans hl.1.symm) hown h1 h2 h3 h4 hK hP hD hS q0 q1 0 0 ha0 ha1 rfl rfl rfl (by decide) (by decide) (nI_pos hM) (by rw [hc]; exact Nat.le_trans (Nat.le_of_eq (Nat.zero_add M)) hb0) (by rw [hc]; exact Nat.le_trans (Nat.le_of_eq (Nat.zero_add M)) hb1) (fun _ _ => rfl) hr.1 hr.2 d (fun H1 locs1 hP1 hD1 hS1 => ?_)
  rw [hc] at hP1 hD1
  exact h H1 locs1 ls hP1 hD1 hS1 hl
theorem z_fm {α β : Type} {f : α → Option β} {l : List α} {l' : List β} (h : l.map f = l'.map some) : l.filterMap f = l' := by
  have e : l.filterMap f = (l.map f).filterMap id := by rw [List.filterMap_map]; rfl
  rw [e, h, List.filterMap_map]
  exact List.filterMap_some
def zPc (G : ZG) (av : List Value) (w : va_W) (sz : Nat) : Array Value → State → Prop := va_Pc av (fun U => U.heap.size = sz ∧ va_P G.2.1 vwCl w U.heap ∧ va_K G.2.1 vwCl (zty G) U ∧ zN U ∧ va_D (fun _ => True) w)
theorem zPc_blind (G : ZG) (av : List Value) (w : va_W) (sz : Nat) : FrameBlind (zPc G av w sz) := fun a U g mk q => by
  obtain ⟨q0, q1, qP, qK, qN, qD⟩ := q
  exact ⟨q0, q1, qP, va_K.moved (u := U) (U := U.calling g mk a) (Vm.Alike.refl U.vm) qK, zN.same rfl qN, qD⟩
def zB (G : ZG) (A : Nat → Prop) (w : va_W) (t : State) : Prop := va_P G.2.1 vwCl w t.heap ∧ va_D A w
/-- a contract: from the world w, with the arguments av, the method y answers r and leaves the world wf u with Q r u; it makes nothing -/
def ZMi {S : Type} (G : ZG) (y : MethodName) (ws : List Cond) (rm : Room) (av : List Value) (w : va_W) (wf : S → va_W) (Q : Int32 → S → Prop) : Prop := ∀ sz : Nat, Met G.1 y ws rm (zPc G av w sz) (va_Qi Q (fun u t => zB G (va_A w sz) (wf u) t) (va_A w sz)) 0 0 (va_A w sz)
def ZMl {S : Type} (G : ZG) (y : MethodName) (ws : List Cond) (rm : Room) (av : List Value) (w : va_W) (wf : S → va_W) (Q : Int64 → S → Prop) : Prop := ∀ sz : Nat, Met G.1 y ws rm (zPc G av w sz) (va_Ql Q (fun u t => zB G (va_A w sz) (wf u) t) (va_A w sz)) 0 0 (va_A w sz)
def ZMv {S : Type} (G : ZG) (y : MethodName) (ws : List Cond) (rm : Room) (av : List Value) (w : va_W) (wf : S → va_W) (Q : S → Prop) : Prop := ∀ sz : Nat, Met G.1 y ws rm (zPc G av w sz) (va_Qv Q (fun u t => zB G (va_A w sz) (wf u) t) (va_A w sz)) 0 0 (va_A w sz)
def ZMr {S : Type} (G : ZG) (y : MethodName) (ws : List Cond) (rm : Room) (av : List Value) (w : va_W) (wf : S → va_W) (Q : Nat → S → Prop) : Prop := ∀ sz : Nat, Met G.1 y ws rm (zPc G av w sz) (va_Qr (fun _ => True) (fun u a t => Q a u ∧ zB G (va_A w sz) (wf u) t) (va_A w sz)) 0 0 (va_A w sz)
theorem z_ofi {S : Type} {y : MethodName} {ws ws' : List Cond} {av : List Value} {wf : S → va_W} {Q : Int32 → S → Prop} (hy : plainName y.cls = true) (hw : ws = Cond.code y cc N (some .int) :: ws') (hlen : (lg_sl av).length ≤ N) (hlv : lv_args 0 av = lv)
    (body : ∀ E : ZE, ZF E N cc y.cls ws rm G → (∀ (v : Int32) (u : S) (lv : List (Nat × Value)) (pc : Nat), Q v u → decode cc pc = .ok (.ireturn, 1) → Z E N 0 0 (wf u) lv pc [.int v]) → Z E N 0 0 w lv 0 []) : ZMi G y ws rm av w wf Q := by
  intro sz
  refine Met.ofW (cc := cc) (maxL := N) (ret := some .int) hy hw ?_
  intro p e s m args below meth c s₁ B hml hv
  obtain ⟨rfl, hsz, hP, hK, hN, hD0⟩ := hv
  have hx := B.exec
  have hb := B.bytes
  have hr := B.returns
  have hts := atoms_spec (ws := ws) B.pre
  have hown : s.vm.findClass y.cls = some m.cls := findClass_of_methodNamed B.named
  have hlocks := B.notSynchronized
  subst hsz
  have hD := hD0.self (sz := s.heap.size)
  have hA : ∀ q : Nat, s.heap.size ≤ q → va_A w s.heap.size q := fun q h => Or.inr h
  have hl := lv_entry av (n := N) hlen
  rw [hlv] at hl
  rw [lg_entry_eq]
  refine body (p, G.1, e, rm, s, m, av.toArray, below, meth, c, G.2.1, va_A w s.heap.size, _) ⟨hx, hb, hml, hown, hts, hK, hN, hA, rfl, rfl, rfl⟩ ?_ s.heap [] _ hP hD va_S.rf hl
  intro v u lv9 pc9 hq d H locs ls hP9 hD9 hS9 hl9
  exact W.iret (v := v) hx hb hr (fun t ht hW => ⟨⟨v, u, rfl, hq, by rw [ht]; exact hP9, hD9⟩, hS9.F ht⟩) hS9.2.2 d hlocks
theorem z_ofz {S : Type} {y : MethodName} {ws ws' : List Cond} {av : List Value} {wf : S → va_W} {Q : Int32 → S → Prop} (hy : plainName y.cls = true) (hw : ws = Cond.code y cc N (some .boolean) :: ws') (hlen : (lg_sl av).length ≤ N) (hlv : lv_args 0 av = lv)
    (body : ∀ E : ZE, ZF E N cc y.cls ws rm G → (∀ (v : Int32) (u : S) (lv : List (Nat × Value)) (pc : Nat), Q v u → decode cc pc = .ok (.ireturn, 1) → narrow .boolean (.int v) = .int v → Z E N 0 0 (wf u) lv pc [.int v]) → Z E N 0 0 w lv 0 []) : ZMi G y ws rm av w wf Q := by
  intro sz
  refine Met.ofW (cc := cc) (maxL := N) (ret := some .boolean) hy hw ?_
  intro p e s m args below meth c s₁ B hml hv
  obtain ⟨rfl, hsz, hP, hK, hN, hD0⟩ := hv
  have hx := B.exec
  have hb := B.bytes
  have hr := B.returns
  have hts := atoms_spec (ws := ws) B.pre
  have hown : s.vm.findClass y.cls = some m.cls := findClass_of_methodNamed B.named
  have hlocks := B.notSynchronized
  subst hsz
  have hD := hD0.self (sz := s.heap.size)
  have hA : ∀ q : Nat, s.heap.size ≤ q → va_A w s.heap.size q := fun q h => Or.inr h
  have hl := lv_entry av (n := N) hlen
  rw [hlv] at hl
  rw [lg_entry_eq]
  refine body (p, G.1, e, rm, s, m, av.toArray, below, meth, c, G.2.1, va_A w s.heap.size, _) ⟨hx, hb, hml, hown, hts, hK, hN, hA, rfl, rfl, rfl⟩ ?_ s.heap [] _ hP hD va_S.rf hl
  intro v u lv9 pc9 hq d hnar H locs ls hP9 hD9 hS9 hl9
  exact W.zret (v := v) (ty := .boolean) hx hb hr hnar (fun t ht hW => ⟨⟨v, u, rfl, hq, by rw [ht]; exact hP9, hD9⟩, hS9.F ht⟩) hS9.2.2 d hlocks
theorem z_ofl {S : Type} {y : MethodName} {ws ws' : List Cond} {av : List Value} {wf : S → va_W} {Q : Int64 → S → Prop} (hy : plainName y.cls = true) (hw : ws = Cond.code y cc N (some .long) :: ws') (hlen : (lg_sl av).length ≤ N) (hlv : lv_args 0 av = lv)
    (body : ∀ E : ZE, ZF E N cc y.cls ws rm G → (∀ (v : Int64) (u : S) (lv : List (Nat × Value)) (pc : Nat), Q v u → decode cc pc = .ok (.lreturn, 1) → Z E N 0 0 (wf u) lv pc [.long v]) → Z E N 0 0 w lv 0 []) : ZMl G y ws rm av w wf Q := by
  intro sz
  refine Met.ofW (cc := cc) (maxL := N) (ret := some .long) hy hw ?_
  intro p e s m args below meth c s₁ B hml hv
  obtain ⟨rfl, hsz, hP, hK, hN, hD0⟩ := hv
  have hx := B.exec
  have hb := B.bytes
  have hr := B.returns
  have hts := atoms_spec (ws := ws) B.pre
  have hown : s.vm.findClass y.cls = some m.cls := findClass_of_methodNamed B.named
  have hlocks := B.notSynchronized
  subst hsz
  have hD := hD0.self (sz := s.heap.size)
  have hA : ∀ q : Nat, s.heap.size ≤ q → va_A w s.heap.size q := fun q h => Or.inr h
  have hl := lv_entry av (n := N) hlen
  rw [hlv] at hl
  rw [lg_entry_eq]
  refine body (p, G.1, e, rm, s, m, av.toArray, below, meth, c, G.2.1, va_A w s.heap.size, _) ⟨hx, hb, hml, hown, hts, hK, hN, hA, rfl, rfl, rfl⟩ ?_ s.heap [] _ hP hD va_S.rf hl
  intro v u lv9 pc9 hq d H locs ls hP9 hD9 hS9 hl9
  exact W.lret (v := v) hx hb hr (fun t ht hW => ⟨⟨v, u, rfl, hq, by rw [ht]; exact hP9, hD9⟩, hS9.F ht⟩) hS9.2.2 d hlocks
theorem z_ofv {S : Type} {y : MethodName} {ws ws' : List Cond} {av : List Value} {wf : S → va_W} {Q : S → Prop} (hy : plainName y.cls = true) (hw : ws = Cond.code y cc N none :: ws') (hlen : (lg_sl av).length ≤ N) (hlv : lv_args 0 av = lv)
    (body : ∀ E : ZE, ZF E N cc y.cls ws rm G → (∀ (u : S) (lv : List (Nat × Value)) (pc : Nat), Q u → decode cc pc = .ok (.return_, 1) → Z E N 0 0 (wf u) lv pc []) → Z E N 0 0 w lv 0 []) : ZMv G y ws rm av w wf Q := by
  intro sz
  refine Met.ofW (cc := cc) (maxL := N) (ret := none) hy hw ?_
  intro p e s m args below meth c s₁ B hml hv
  obtain ⟨rfl, hsz, hP, hK, hN, hD0⟩ := hv
  have hx := B.exec
  have hb := B.bytes
  have hr := B.returns
  have hts := atoms_spec (ws := ws) B.pre
  have hown : s.vm.findClass y.cls = some m.cls := findClass_of_methodNamed B.named
  have hlocks := B.notSynchronized
  subst hsz
  have hD := hD0.self (sz := s.heap.size)
  have hA : ∀ q : Nat, s.heap.size ≤ q → va_A w s.heap.size q := fun q h => Or.inr h
  have hl := lv_entry av (n := N) hlen
  rw [hlv] at hl
  rw [lg_entry_eq]
  refine body (p, G.1, e, rm, s, m, av.toArray, below, meth, c, G.2.1, va_A w s.heap.size, _) ⟨hx, hb, hml, hown, hts, hK, hN, hA, rfl, rfl, rfl⟩ ?_ s.heap [] _ hP hD va_S.rf hl
  intro u lv9 pc9 hq d H locs ls hP9 hD9 hS9 hl9
  exact W.vret hx hb hr (fun t ht hW => ⟨⟨u, rfl, hq, by rw [ht]; exact hP9, hD9⟩, hS9.F ht⟩) hS9.2.2 d hlocks
theorem z_ofr {S : Type} {y : MethodName} {ws ws' : List Cond} {av : List Value} {wf : S → va_W} {Q : Nat → S → Prop} {cn : String} (hy : plainName y.cls = true) (hw : ws = Cond.code y cc N (some (.object cn)) :: ws') (hlen : (lg_sl av).length ≤ N) (hlv : lv_args 0 av = lv)
    (body : ∀ E : ZE, ZF E N cc y.cls ws rm G → (∀ (v : Nat) (u : S) (lv : List (Nat × Value)) (pc : Nat), Q v u → decode cc pc = .ok (.areturn, 1) → Z E N 0 0 (wf u) lv pc [.ref v]) → Z E N 0 0 w lv 0 []) : ZMr G y ws rm av w wf Q := by
  intro sz
  refine Met.ofW (cc := cc) (maxL := N) (ret := some (.object cn)) hy hw ?_
  intro p e s m args below meth c s₁ B hml hv
  obtain ⟨rfl, hsz, hP, hK, hN, hD0⟩ := hv
  have hx := B.exec
  have hb := B.bytes
  have hr := B.returns
  have hts := atoms_spec (ws := ws) B.pre
  have hown : s.vm.findClass y.cls = some m.cls := findClass_of_methodNamed B.named
  have hlocks := B.notSynchronized
  subst hsz
  have hD := hD0.self (sz := s.heap.size)
  have hA : ∀ q : Nat, s.heap.size ≤ q → va_A w s.heap.size q := fun q h => Or.inr h
  have hl := lv_entry av (n := N) hlen
  rw [hlv] at hl
  rw [lg_entry_eq]
  refine body (p, G.1, e, rm, s, m, av.toArray, below, meth, c, G.2.1, va_A w s.heap.size, _) ⟨hx, hb, hml, hown, hts, hK, hN, hA, rfl, rfl, rfl⟩ ?_ s.heap [] _ hP hD va_S.rf hl
  intro v u lv9 pc9 hq d H locs ls hP9 hD9 hS9 hl9
  exact W.aret (v := .ref v) hx hb hr (Or.inl ⟨_, rfl⟩) (Or.inr ⟨_, rfl⟩) (fun t ht hW => ⟨⟨u, v, rfl, trivial, hq, by rw [ht]; exact hP9, hD9⟩, hS9.F ht⟩) hS9.2.2 d hlocks
theorem z_callVi {S : Type} {y : MethodName} {ws ws' : List Cond} {bytes : ByteArray} {maxL i : Nat} {ret : Option FieldType} {rm' : Room} {As rest : List Value} {wc : va_W} {wf : S → va_W} {Q : Int32 → S → Prop} {C : String} {T : u_T} {M0 b ci : Nat} {fs : List Value} (w' : S → va_W) (F : ZF E N cc own Ts rm G) (hM : ZMi G y ws rm' (.ref b :: As) wc wf Q) (hT : GoodIn Ts (wsV own i C y ws)) (hw : ws = Cond.code y bytes maxL ret :: ws') (hd : y.cls = C ∧ y.cls ≠ "java/lang/invoke/MethodHandle" ∧ y.cls ≠ "java/lang/invoke/VarHandle" ∧ (parseMethodDescriptor y.desc).map (fun d => d.parameters.length) = some As.length) (hz : rm'.cells = 0 ∧ rm'.slots = 0 ∧ rm'.frames + 1 ≤ rm.frames ∧ 8 + (maxL + 11) + rm'.locals ≤ rm.locals ∧ k ≤ rm.cells ∧ n ≤ rm.slots) (q0 : Nat) (he : w[q0]? = some (b, .inr (ci, fs))) (hc : vwCl[ci]? = some (C, T, M0)) (isC isR perm : List Nat) (hC : isC.map (fun i => w[i]?) = wc.map some) (hR9 : isR.map (fun i => w[i]?) = (isR.filterMap (fun i => w[i]?)).map some) (hn : (va_nd isC && va_nd isR && va_nd perm && isR.all (fun i => !isC.contains i)) = true) (hp : ∀ u, perm.map (fun i => ((isR.filterMap (fun i => w[i]?)) ++ wf u)[i]?) = (w' u).map some) (hst : st = As.reverse ++ .ref b :: rest) (hrest : (rest.map fun v => v.category).sum ≤ 8) (d : decode cc pc = .ok (.invokevirtual i, 3)) (h : ∀ (r : Int32) (u : S), Q r u → Z E N k n (w' u) lv (pc + 3) (.int r :: rest)) : Z E N k n w lv pc st := by
  obtain ⟨p, l, e, R, s, m, args, below, meth, c, D, A, Qz⟩ := E
  obtain ⟨hx, hb, hml, hown, hts, hK, hN, hA, hR, hGl, hGd⟩ := F
  subst hR hGl hGd
  simp only [Bool.and_eq_true] at hn
  obtain ⟨⟨⟨hn1, hn2⟩, hn3⟩, hn4⟩ := hn
  have hdis : ∀ i ∈ isR, i ∉ isC := fun i hi => by
    have := List.all_eq_true.mp hn4 i hi
    simpa using this
  intro H locs ls hP hD hS hl
  have hPc := hP.sub isC (z_fm hC)
  have hDc := hD.sub isC hn1 hC
  have hFc := va_free (wc := wc) hD hS hA isC hC
  refine va_calli (va_runV (As := As) (rest := rest) ⟨hx, hb, hml, hown, hts⟩ (hM H.size) (cwV As.length hts hT hw hz.1 hz.2.1 hd ⟨hz.2.2.1, hz.2.2.2.1⟩) ⟨zPc_blind G _ _ _, va_recv hK hP hc he, fun U hU hW => ⟨rfl, by rw [hU], by rw [hU]; exact hPc, va_K.moved hW.alike hK, zN.warm hW hN, hDc.weaken (fun _ _ _ _ => trivial)⟩⟩ rfl rfl hl.1 hst (lv_room hrest) d ⟨hz.2.2.2.2.1, hz.2.2.2.2.2⟩) hS (fun q _ h => hFc q h) hFc (fun r u t H1 locs1 ht hvm hq hB hz1 hk1 hS1 => ?_)
  obtain ⟨hP1, hD1⟩ := hB
  rw [ht] at hP1
  obtain ⟨hP2, hD2⟩ := va_join (wr := isR.filterMap (fun i => w[i]?)) (w1 := wf u) hP hD isC isR hC hR9 hn2 hdis hk1 hFc hP1 hD1
  exact h r u hq H1 locs1 ls (hP2.sub perm (z_fm (hp u))) (hD2.sub perm hn3 (hp u)) hS1 hl
theorem z_callVl {S : Type} {y : MethodName} {ws ws' : List Cond} {bytes : ByteArray} {maxL i : Nat} {ret : Option FieldType} {rm' : Room} {As rest : List Value} {wc : va_W} {wf : S → va_W} {Q : Int64 → S → Prop} {C : String} {T : u_T} {M0 b ci : Nat} {fs : List Value} (w' : S → va_W) (F : ZF E N cc own Ts rm G) (hM : ZMl G y ws rm' (.ref b :: As) wc wf Q) (hT : GoodIn Ts (wsV own i C y ws)) (hw : ws = Cond.code y bytes maxL ret :: ws') (hd : y.cls = C ∧ y.cls ≠ "java/lang/invoke/MethodHandle" ∧ y.cls ≠ "java/lang/invoke/VarHandle" ∧ (parseMethodDescriptor y.desc).map (fun d => d.parameters.length) = some As.length) (hz : rm'.cells = 0 ∧ rm'.slots = 0 ∧ rm'.frames + 1 ≤ rm.frames ∧ 8 + (maxL + 11) + rm'.locals ≤ rm.locals ∧ k ≤ rm.cells ∧ n ≤ rm.slots) (q0 : Nat) (he : w[q0]? = some (b, .inr (ci, fs))) (hc : vwCl[ci]? = some (C, T, M0)) (isC isR perm : List Nat) (hC : isC.map (fun i => w[i]?) = wc.map some) (hR9 : isR.map (fun i => w[i]?) = (isR.filterMap (fun i => w[i]?)).map some) (hn : (va_nd isC && va_nd isR && va_nd perm && isR.all (fun i => !isC.contains i)) = true) (hp : ∀ u, perm.map (fun i => ((isR.filterMap (fun i => w[i]?)) ++ wf u)[i]?) = (w' u).map some) (hst : st = As.reverse ++ .ref b :: rest) (hrest : (rest.map fun v => v.category).sum ≤ 8) (d : decode cc pc = .ok (.invokevirtual i, 3)) (h : ∀ (r : Int64) (u : S), Q r u → Z E N k n (w' u) lv (pc + 3) (.long r :: rest)) : Z E N k n w lv pc st := by
  obtain ⟨p, l, e, R, s, m, args, below, meth, c, D, A, Qz⟩ := E
  obtain ⟨hx, hb, hml, hown, hts, hK, hN, hA, hR, hGl, hGd⟩ := F
  subst hR hGl hGd
  simp only [Bool.and_eq_true] at hn
  obtain ⟨⟨⟨hn1, hn2⟩, hn3⟩, hn4⟩ := hn
  have hdis : ∀ i ∈ isR, i ∉ isC := fun i hi => by
    have := List.all_eq_true.mp hn4 i hi
    simpa using this
  intro H locs ls hP hD hS hl
  have hPc := hP.sub isC (z_fm hC)
  have hDc := hD.sub isC hn1 hC
  have hFc := va_free (wc := wc) hD hS hA isC hC
  refine va_calll (va_runV (As := As) (rest := rest) ⟨hx, hb, hml, hown, hts⟩ (hM H.size) (cwV As.length hts hT hw hz.1 hz.2.1 hd ⟨hz.2.2.1, hz.2.2.2.1⟩) ⟨zPc_blind G _ _ _, va_recv hK hP hc he, fun U hU hW => ⟨rfl, by rw [hU], by rw [hU]; exact hPc, va_K.moved hW.alike hK, zN.warm hW hN, hDc.weaken (fun _ _ _ _ => trivial)⟩⟩ rfl rfl hl.1 hst (lv_room hrest) d ⟨hz.2.2.2.2.1, hz.2.2.2.2.2⟩) hS (fun q _ h => hFc q h) hFc (fun r u t H1 locs1 ht hvm hq hB hz1 hk1 hS1 => ?_)
  obtain ⟨hP1, hD1⟩ := hB
  rw [ht] at hP1
  obtain ⟨hP2, hD2⟩ := va_join (wr := isR.filterMap (fun i => w[i]?)) (w1 := wf u) hP hD isC isR hC hR9 hn2 hdis hk1 hFc hP1 hD1
  exact h r u hq H1 locs1 ls (hP2.sub perm (z_fm (hp u))) (hD2.sub perm hn3 (hp u)) hS1 hl
theorem z_callVv {S : Type} {y : MethodName} {ws ws' : List Cond} {bytes : ByteArray} {maxL i : Nat} {ret : Option FieldType} {rm' : Room} {As rest : List Value} {wc : va_W} {wf : S → va_W} {Q : S → Prop} {C : String} {T : u_T} {M0 b ci : Nat} {fs : List Value} (w' : S → va_W) (F : ZF E N cc own Ts rm G) (hM : ZMv G y ws rm' (.ref b :: As) wc wf Q) (hT : GoodIn Ts (wsV own i C y ws)) (hw : ws = Cond.code y bytes maxL ret :: ws') (hd : y.cls = C ∧ y.cls ≠ "java/lang/invoke/MethodHandle" ∧ y.cls ≠ "java/lang/invoke/VarHandle" ∧ (parseMethodDescriptor y.desc).map (fun d => d.parameters.length) = some As.length) (hz : rm'.cells = 0 ∧ rm'.slots = 0 ∧ rm'.frames + 1 ≤ rm.frames ∧ 8 + (maxL + 11) + rm'.locals ≤ rm.locals ∧ k ≤ rm.cells ∧ n ≤ rm.slots) (q0 : Nat) (he : w[q0]? = some (b, .inr (ci, fs))) (hc : vwCl[ci]? = some (C, T, M0)) (isC isR perm : List Nat) (hC : isC.map (fun i => w[i]?) = wc.map some) (hR9 : isR.map (fun i => w[i]?) = (isR.filterMap (fun i => w[i]?)).map some) (hn : (va_nd isC && va_nd isR && va_nd perm && isR.all (fun i => !isC.contains i)) = true) (hp : ∀ u, perm.map (fun i => ((isR.filterMap (fun i => w[i]?)) ++ wf u)[i]?) = (w' u).map some) (hst : st = As.reverse ++ .ref b :: rest) (hrest : (rest.map fun v => v.category).sum ≤ 8) (d : decode cc pc = .ok (.invokevirtual i, 3)) (h : ∀ u : S, Q u → Z E N k n (w' u) lv (pc + 3) (rest)) : Z E N k n w lv pc st := by
  obtain ⟨p, l, e, R, s, m, args, below, meth, c, D, A, Qz⟩ := E
  obtain ⟨hx, hb, hml, hown, hts, hK, hN, hA, hR, hGl, hGd⟩ := F
  subst hR hGl hGd
  simp only [Bool.and_eq_true] at hn
  obtain ⟨⟨⟨hn1, hn2⟩, hn3⟩, hn4⟩ := hn
  have hdis : ∀ i ∈ isR, i ∉ isC := fun i hi => by
    have := List.all_eq_true.mp hn4 i hi
    simpa using this
  intro H locs ls hP hD hS hl
  have hPc := hP.sub isC (z_fm hC)
  have hDc := hD.sub isC hn1 hC
  have hFc := va_free (wc := wc) hD hS hA isC hC
  refine va_callv (va_runV (As := As) (rest := rest) ⟨hx, hb, hml, hown, hts⟩ (hM H.size) (cwV As.length hts hT hw hz.1 hz.2.1 hd ⟨hz.2.2.1, hz.2.2.2.1⟩) ⟨zPc_blind G _ _ _, va_recv hK hP hc he, fun U hU hW => ⟨rfl, by rw [hU], by rw [hU]; exact hPc, va_K.moved hW.alike hK, zN.warm hW hN, hDc.weaken (fun _ _ _ _ => trivial)⟩⟩ rfl rfl hl.1 hst (lv_room hrest) d ⟨hz.2.2.2.2.1, hz.2.2.2.2.2⟩) hS (fun q _ h => hFc q h) hFc (fun u t H1 locs1 ht hvm hq hB hz1 hk1 hS1 => ?_)
  obtain ⟨hP1, hD1⟩ := hB
  rw [ht] at hP1
  obtain ⟨hP2, hD2⟩ := va_join (wr := isR.filterMap (fun i => w[i]?)) (w1 := wf u) hP hD isC isR hC hR9 hn2 hdis hk1 hFc hP1 hD1
  exact h u hq H1 locs1 ls (hP2.sub perm (z_fm (hp u))) (hD2.sub perm hn3 (hp u)) hS1 hl
theorem z_callVr {S : Type} {y : MethodName} {ws ws' : List Cond} {bytes : ByteArray} {maxL i : Nat} {ret : Option FieldType} {rm' : Room} {As rest : List Value} {wc : va_W} {wf : S → va_W} {Q : Nat → S → Prop} {C : String} {T : u_T} {M0 b ci : Nat} {fs : List Value} (w' : S → va_W) (F : ZF E N cc own Ts rm G) (hM : ZMr G y ws rm' (.ref b :: As) wc wf Q) (hT : GoodIn Ts (wsV own i C y ws)) (hw : ws = Cond.code y bytes maxL ret :: ws') (hd : y.cls = C ∧ y.cls ≠ "java/lang/invoke/MethodHandle" ∧ y.cls ≠ "java/lang/invoke/VarHandle" ∧ (parseMethodDescriptor y.desc).map (fun d => d.parameters.length) = some As.length) (hz : rm'.cells = 0 ∧ rm'.slots = 0 ∧ rm'.frames + 1 ≤ rm.frames ∧ 8 + (maxL + 11) + rm'.locals ≤ rm.locals ∧ k ≤ rm.cells ∧ n ≤ rm.slots) (q0 : Nat) (he : w[q0]? = some (b, .inr (ci, fs))) (hc : vwCl[ci]? = some (C, T, M0)) (isC isR perm : List Nat) (hC : isC.map (fun i => w[i]?) = wc.map some) (hR9 : isR.map (fun i => w[i]?) = (isR.filterMap (fun i => w[i]?)).map some) (hn : (va_nd isC && va_nd isR && va_nd perm && isR.all (fun i => !isC.contains i)) = true) (hp : ∀ u, perm.map (fun i => ((isR.filterMap (fun i => w[i]?)) ++ wf u)[i]?) = (w' u).map some) (hst : st = As.reverse ++ .ref b :: rest) (hrest : (rest.map fun v => v.category).sum ≤ 8) (d : decode cc pc = .ok (.invokevirtual i, 3)) (h : ∀ (r : Nat) (u : S), Q r u → Z E N k n (w' u) lv (pc + 3) (.ref r :: rest)) : Z E N k n w lv pc st := by
  obtain ⟨p, l, e, R, s, m, args, below, meth, c, D, A, Qz⟩ := E
  obtain ⟨hx, hb, hml, hown, hts, hK, hN, hA, hR, hGl, hGd⟩ := F
  subst hR hGl hGd
  simp only [Bool.and_eq_true] at hn
  obtain ⟨⟨⟨hn1, hn2⟩, hn3⟩, hn4⟩ := hn
  have hdis : ∀ i ∈ isR, i ∉ isC := fun i hi => by
    have := List.all_eq_true.mp hn4 i hi
    simpa using this
  intro H locs ls hP hD hS hl
  have hPc := hP.sub isC (z_fm hC)
  have hDc := hD.sub isC hn1 hC
  have hFc := va_free (wc := wc) hD hS hA isC hC
  refine va_callr (va_runV (As := As) (rest := rest) ⟨hx, hb, hml, hown, hts⟩ (hM H.size) (cwV As.length hts hT hw hz.1 hz.2.1 hd ⟨hz.2.2.1, hz.2.2.2.1⟩) ⟨zPc_blind G _ _ _, va_recv hK hP hc he, fun U hU hW => ⟨rfl, by rw [hU], by rw [hU]; exact hPc, va_K.moved hW.alike hK, zN.warm hW hN, hDc.weaken (fun _ _ _ _ => trivial)⟩⟩ rfl rfl hl.1 hst (lv_room hrest) d ⟨hz.2.2.2.2.1, hz.2.2.2.2.2⟩) hS (fun q _ h => hFc q h) hFc (fun u r t H1 locs1 ht hvm hq0 hB hz1 hk1 hS1 => ?_)
  obtain ⟨hq, hP1, hD1⟩ := hB
  rw [ht] at hP1
  obtain ⟨hP2, hD2⟩ := va_join (wr := isR.filterMap (fun i => w[i]?)) (w1 := wf u) hP hD isC isR hC hR9 hn2 hdis hk1 hFc hP1 hD1
  exact h r u hq H1 locs1 ls (hP2.sub perm (z_fm (hp u))) (hD2.sub perm hn3 (hp u)) hS1 hl
theorem z_callSi {S : Type} {y : MethodName} {ws ws' : List Cond} {bytes : ByteArray} {maxL i : Nat} {ret : Option FieldType} {rm' : Room} {As rest : List Value} {wc : va_W} {wf : S → va_W} {Q : Int32 → S → Prop} (w' : S → va_W) (F : ZF E N cc own Ts rm G) (hM : ZMi G y ws rm' (As) wc wf Q) (hT : GoodIn Ts (va_wsS own i y ws)) (hw : ws = Cond.code y bytes maxL ret :: ws') (hd : y.cls ≠ "java/lang/invoke/MethodHandle" ∧ y.cls ≠ "java/lang/invoke/VarHandle" ∧ (parseMethodDescriptor y.desc).map (fun d => d.parameters.length) = some As.length) (hz : rm'.cells = 0 ∧ rm'.slots = 0 ∧ rm'.frames + 1 ≤ rm.frames ∧ 8 + (maxL + 11) + rm'.locals ≤ rm.locals ∧ k ≤ rm.cells ∧ n ≤ rm.slots) (isC isR perm : List Nat) (hC : isC.map (fun i => w[i]?) = wc.map some) (hR9 : isR.map (fun i => w[i]?) = (isR.filterMap (fun i => w[i]?)).map some) (hn : (va_nd isC && va_nd isR && va_nd perm && isR.all (fun i => !isC.contains i)) = true) (hp : ∀ u, perm.map (fun i => ((isR.filterMap (fun i => w[i]?)) ++ wf u)[i]?) = (w' u).map some) (hst : st = As.reverse ++ rest) (hrest : (rest.map fun v => v.category).sum ≤ 8) (d : decode cc pc = .ok (.invokestatic i, 3)) (h : ∀ (r : Int32) (u : S), Q r u → Z E N k n (w' u) lv (pc + 3) (.int r :: rest)) : Z E N k n w lv pc st := by
  obtain ⟨p, l, e, R, s, m, args, below, meth, c, D, A, Qz⟩ := E
  obtain ⟨hx, hb, hml, hown, hts, hK, hN, hA, hR, hGl, hGd⟩ := F
  subst hR hGl hGd
  simp only [Bool.and_eq_true] at hn
  obtain ⟨⟨⟨hn1, hn2⟩, hn3⟩, hn4⟩ := hn
  have hdis : ∀ i ∈ isR, i ∉ isC := fun i hi => by
    have := List.all_eq_true.mp hn4 i hi
    simpa using this
  intro H locs ls hP hD hS hl
  have hPc := hP.sub isC (z_fm hC)
  have hDc := hD.sub isC hn1 hC
  have hFc := va_free (wc := wc) hD hS hA isC hC
  refine va_calli (va_runS (As := As) (rest := rest) ⟨hx, hb, hml, hown, hts⟩ (hM H.size) (va_cwS As.length hts hT hw hz.1 hz.2.1 hd ⟨hz.2.2.1, hz.2.2.2.1⟩) ⟨zPc_blind G _ _ _, fun U hU hW => ⟨rfl, by rw [hU], by rw [hU]; exact hPc, va_K.moved hW.alike hK, zN.warm hW hN, hDc.weaken (fun _ _ _ _ => trivial)⟩⟩ rfl rfl hl.1 hst (lv_room hrest) d ⟨hz.2.2.2.2.1, hz.2.2.2.2.2⟩) hS (fun q _ h => hFc q h) hFc (fun r u t H1 locs1 ht hvm hq hB hz1 hk1 hS1 => ?_)
  obtain ⟨hP1, hD1⟩ := hB
  rw [ht] at hP1
  obtain ⟨hP2, hD2⟩ := va_join (wr := isR.filterMap (fun i => w[i]?)) (w1 := wf u) hP hD isC isR hC hR9 hn2 hdis hk1 hFc hP1 hD1
  exact h r u hq H1 locs1 ls (hP2.sub perm (z_fm (hp u))) (hD2.sub perm hn3 (hp u)) hS1 hl
theorem z_callSl {S : Type} {y : MethodName} {ws ws' : List Cond} {bytes : ByteArray} {maxL i : Nat} {ret : Option FieldType} {rm' : Room} {As rest : List Value} {wc : va_W} {wf : S → va_W} {Q : Int64 → S → Prop} (w' : S → va_W) (F : ZF E N cc own Ts rm G) (hM : ZMl G y ws rm' (As) wc wf Q) (hT : GoodIn Ts (va_wsS own i y ws)) (hw : ws = Cond.code y bytes maxL ret :: ws') (hd : y.cls ≠ "java/lang/invoke/MethodHandle" ∧ y.cls ≠ "java/lang/invoke/VarHandle" ∧ (parseMethodDescriptor y.desc).map (fun d => d.parameters.length) = some As.length) (hz : rm'.cells = 0 ∧ rm'.slots = 0 ∧ rm'.frames + 1 ≤ rm.frames ∧ 8 + (maxL + 11) + rm'.locals ≤ rm.locals ∧ k ≤ rm.cells ∧ n ≤ rm.slots) (isC isR perm : List Nat) (hC : isC.map (fun i => w[i]?) = wc.map some) (hR9 : isR.map (fun i => w[i]?) = (isR.filterMap (fun i => w[i]?)).map some) (hn : (va_nd isC && va_nd isR && va_nd perm && isR.all (fun i => !isC.contains i)) = true) (hp : ∀ u, perm.map (fun i => ((isR.filterMap (fun i => w[i]?)) ++ wf u)[i]?) = (w' u).map some) (hst : st = As.reverse ++ rest) (hrest : (rest.map fun v => v.category).sum ≤ 8) (d : decode cc pc = .ok (.invokestatic i, 3)) (h : ∀ (r : Int64) (u : S), Q r u → Z E N k n (w' u) lv (pc + 3) (.long r :: rest)) : Z E N k n w lv pc st := by
  obtain ⟨p, l, e, R, s, m, args, below, meth, c, D, A, Qz⟩ := E
  obtain ⟨hx, hb, hml, hown, hts, hK, hN, hA, hR, hGl, hGd⟩ := F
  subst hR hGl hGd
  simp only [Bool.and_eq_true] at hn
  obtain ⟨⟨⟨hn1, hn2⟩, hn3⟩, hn4⟩ := hn
  have hdis : ∀ i ∈ isR, i ∉ isC := fun i hi => by
    have := List.all_eq_true.mp hn4 i hi
    simpa using this
  intro H locs ls hP hD hS hl
  have hPc := hP.sub isC (z_fm hC)
  have hDc := hD.sub isC hn1 hC
  have hFc := va_free (wc := wc) hD hS hA isC hC
  refine va_calll (va_runS (As := As) (rest := rest) ⟨hx, hb, hml, hown, hts⟩ (hM H.size) (va_cwS As.length hts hT hw hz.1 hz.2.1 hd ⟨hz.2.2.1, hz.2.2.2.1⟩) ⟨zPc_blind G _ _ _, fun U hU hW => ⟨rfl, by rw [hU], by rw [hU]; exact hPc, va_K.moved hW.alike hK, zN.warm hW hN, hDc.weaken (fun _ _ _ _ => trivial)⟩⟩ rfl rfl hl.1 hst (lv_room hrest) d ⟨hz.2.2.2.2.1, hz.2.2.2.2.2⟩) hS (fun q _ h => hFc q h) hFc (fun r u t H1 locs1 ht hvm hq hB hz1 hk1 hS1 => ?_)
  obtain ⟨hP1, hD1⟩ := hB
  rw [ht] at hP1
  obtain ⟨hP2, hD2⟩ := va_join (wr := isR.filterMap (fun i => w[i]?)) (w1 := wf u) hP hD isC isR hC hR9 hn2 hdis hk1 hFc hP1 hD1
  exact h r u hq H1 locs1 ls (hP2.sub perm (z_fm (hp u))) (hD2.sub perm hn3 (hp u)) hS1 hl
theorem z_callNi {S : Type} {y : MethodName} {ws ws' : List Cond} {bytes : ByteArray} {maxL i : Nat} {ret : Option FieldType} {rm' : Room} {As rest : List Value} {wc : va_W} {wf : S → va_W} {Q : Int32 → S → Prop} (w' : S → va_W) (F : ZF E N cc own Ts rm G) (hM : ZMi G y ws rm' (As) wc wf Q) (hT : GoodIn Ts ws) (hNw : (own, i, y) ∈ zNl) (hini : ZW E (.initialized y.cls)) (hsta : ZW E (.static y)) (hw : ws = Cond.code y bytes maxL ret :: ws') (hd : y.cls ≠ "java/lang/invoke/MethodHandle" ∧ y.cls ≠ "java/lang/invoke/VarHandle" ∧ (parseMethodDescriptor y.desc).map (fun d => d.parameters.length) = some As.length) (hz : rm'.cells = 0 ∧ rm'.slots = 0 ∧ rm'.frames + 1 ≤ rm.frames ∧ 8 + (maxL + 11) + rm'.locals ≤ rm.locals ∧ k ≤ rm.cells ∧ n ≤ rm.slots) (isC isR perm : List Nat) (hC : isC.map (fun i => w[i]?) = wc.map some) (hR9 : isR.map (fun i => w[i]?) = (isR.filterMap (fun i => w[i]?)).map some) (hn : (va_nd isC && va_nd isR && va_nd perm && isR.all (fun i => !isC.contains i)) = true) (hp : ∀ u, perm.map (fun i => ((isR.filterMap (fun i => w[i]?)) ++ wf u)[i]?) = (w' u).map some) (hst : st = As.reverse ++ rest) (hrest : (rest.map fun v => v.category).sum ≤ 8) (d : decode cc pc = .ok (.invokestatic i, 3)) (h : ∀ (r : Int32) (u : S), Q r u → Z E N k n (w' u) lv (pc + 3) (.int r :: rest)) : Z E N k n w lv pc st := by
  obtain ⟨p, l, e, R, s, m, args, below, meth, c, D, A, Qz⟩ := E
  obtain ⟨hx, hb, hml, hown, hts, hK, hN, hA, hR, hGl, hGd⟩ := F
  subst hR hGl hGd
  simp only [Bool.and_eq_true] at hn
  obtain ⟨⟨⟨hn1, hn2⟩, hn3⟩, hn4⟩ := hn
  have hdis : ∀ i ∈ isR, i ∉ isC := fun i hi => by
    have := List.all_eq_true.mp hn4 i hi
    simpa using this
  intro H locs ls hP hD hS hl
  have hPc := hP.sub isC (z_fm hC)
  have hDc := hD.sub isC hn1 hC
  have hFc := va_free (wc := wc) hD hS hA isC hC
  refine va_calli (va_runSN (host := "ColourEcho") (As := As) (rest := rest) ⟨hx, hb, hml, hown, hts⟩ (hM H.size) (⟨va_cnB As.length hts hT hw hz.1 hz.2.1 (hN _ hNw) hini hd ⟨hz.2.2.1, hz.2.2.2.1⟩, hsta, trivial⟩) ⟨zPc_blind G _ _ _, fun U hU hW => ⟨rfl, by rw [hU], by rw [hU]; exact hPc, va_K.moved hW.alike hK, zN.warm hW hN, hDc.weaken (fun _ _ _ _ => trivial)⟩⟩ rfl rfl hl.1 hst (lv_room hrest) d ⟨hz.2.2.2.2.1, hz.2.2.2.2.2⟩) hS (fun q _ h => hFc q h) hFc (fun r u t H1 locs1 ht hvm hq hB hz1 hk1 hS1 => ?_)
  obtain ⟨hP1, hD1⟩ := hB
  rw [ht] at hP1
  obtain ⟨hP2, hD2⟩ := va_join (wr := isR.filterMap (fun i => w[i]?)) (w1 := wf u) hP hD isC isR hC hR9 hn2 hdis hk1 hFc hP1 hD1
  exact h r u hq H1 locs1 ls (hP2.sub perm (z_fm (hp u))) (hD2.sub perm hn3 (hp u)) hS1 hl
theorem z_callNl {S : Type} {y : MethodName} {ws ws' : List Cond} {bytes : ByteArray} {maxL i : Nat} {ret : Option FieldType} {rm' : Room} {As rest : List Value} {wc : va_W} {wf : S → va_W} {Q : Int64 → S → Prop} (w' : S → va_W) (F : ZF E N cc own Ts rm G) (hM : ZMl G y ws rm' (As) wc wf Q) (hT : GoodIn Ts ws) (hNw : (own, i, y) ∈ zNl) (hini : ZW E (.initialized y.cls)) (hsta : ZW E (.static y)) (hw : ws = Cond.code y bytes maxL ret :: ws') (hd : y.cls ≠ "java/lang/invoke/MethodHandle" ∧ y.cls ≠ "java/lang/invoke/VarHandle" ∧ (parseMethodDescriptor y.desc).map (fun d => d.parameters.length) = some As.length) (hz : rm'.cells = 0 ∧ rm'.slots = 0 ∧ rm'.frames + 1 ≤ rm.frames ∧ 8 + (maxL + 11) + rm'.locals ≤ rm.locals ∧ k ≤ rm.cells ∧ n ≤ rm.slots) (isC isR perm : List Nat) (hC : isC.map (fun i => w[i]?) = wc.map some) (hR9 : isR.map (fun i => w[i]?) = (isR.filterMap (fun i => w[i]?)).map some) (hn : (va_nd isC && va_nd isR && va_nd perm && isR.all (fun i => !isC.contains i)) = true) (hp : ∀ u, perm.map (fun i => ((isR.filterMap (fun i => w[i]?)) ++ wf u)[i]?) = (w' u).map some) (hst : st = As.reverse ++ rest) (hrest : (rest.map fun v => v.category).sum ≤ 8) (d : decode cc pc = .ok (.invokestatic i, 3)) (h : ∀ (r : Int64) (u : S), Q r u → Z E N k n (w' u) lv (pc + 3) (.long r :: rest)) : Z E N k n w lv pc st := by
  obtain ⟨p, l, e, R, s, m, args, below, meth, c, D, A, Qz⟩ := E
  obtain ⟨hx, hb, hml, hown, hts, hK, hN, hA, hR, hGl, hGd⟩ := F
  subst hR hGl hGd
  simp only [Bool.and_eq_true] at hn
  obtain ⟨⟨⟨hn1, hn2⟩, hn3⟩, hn4⟩ := hn
  have hdis : ∀ i ∈ isR, i ∉ isC := fun i hi => by
    have := List.all_eq_true.mp hn4 i hi
    simpa using this
  intro H locs ls hP hD hS hl
  have hPc := hP.sub isC (z_fm hC)
  have hDc := hD.sub isC hn1 hC
  have hFc := va_free (wc := wc) hD hS hA isC hC
  refine va_calll (va_runSN (host := "ColourEcho") (As := As) (rest := rest) ⟨hx, hb, hml, hown, hts⟩ (hM H.size) (⟨va_cnB As.length hts hT hw hz.1 hz.2.1 (hN _ hNw) hini hd ⟨hz.2.2.1, hz.2.2.2.1⟩, hsta, trivial⟩) ⟨zPc_blind G _ _ _, fun U hU hW => ⟨rfl, by rw [hU], by rw [hU]; exact hPc, va_K.moved hW.alike hK, zN.warm hW hN, hDc.weaken (fun _ _ _ _ => trivial)⟩⟩ rfl rfl hl.1 hst (lv_room hrest) d ⟨hz.2.2.2.2.1, hz.2.2.2.2.2⟩) hS (fun q _ h => hFc q h) hFc (fun r u t H1 locs1 ht hvm hq hB hz1 hk1 hS1 => ?_)
  obtain ⟨hP1, hD1⟩ := hB
  rw [ht] at hP1
  obtain ⟨hP2, hD2⟩ := va_join (wr := isR.filterMap (fun i => w[i]?)) (w1 := wf u) hP hD isC isR hC hR9 hn2 hdis hk1 hFc hP1 hD1
  exact h r u hq H1 locs1 ls (hP2.sub perm (z_fm (hp u))) (hD2.sub perm hn3 (hp u)) hS1 hl
end
