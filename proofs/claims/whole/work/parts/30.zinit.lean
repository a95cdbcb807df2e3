/-- the method is a constructor -/
def ZI (E : ZE) : Prop := match E with
  | (_, _, _, _, _, _, _, _, meth, _, _, _, _) => meth.name = "<init>"
/-- an address function out of a list -/
def zad (l : List Nat) : Nat → Nat := fun k => l.getD k 0
theorem zb_4 {M : Nat} (h : M < 100000) : M * componentBytes .int ≤ 536870912 := by
  have e : componentBytes .int = 4 := rfl
  rw [e]; omega
theorem zb_1 {M : Nat} (h : M < 100000) : M * componentBytes .boolean ≤ 536870912 := by
  have e : componentBytes .boolean = 1 := rfl
  rw [e]; omega
theorem zb_i (M : Nat) (cA : ClassId) : vp_cell cA (M, .inl (fun _ => 0)) = arrV cA M (fun _ => defaultValue .int) := rfl
theorem zb_z (M : Nat) (cA : ClassId) : vp_cell cA (M, .inl (fun _ => 0)) = arrV cA M (fun _ => defaultValue .boolean) := rfl
section
variable {E : ZE} {N k n k' n' : Nat} {w : va_W} {lv : List (Nat × Value)} {pc : Nat} {st : List Value} {cc : ByteArray} {own : String} {Ts : List Cond} {rm : Room} {G : ZG}
theorem z_new {C : String} {T : u_T} {M ci i : Nat} (fs : List Value) (w' : Nat → va_W) (F : ZF E N cc own Ts rm G) (hin : ∀ x ∈ u_ws C T M, x ∈ Ts) (ty : Nat → FieldType) (hty : ∀ k, k < M → parseFieldDescriptor (T k).2.2.1 = some (ty k)) (hcl : ZW E (.classLink own i C)) (hinst : ZW E (.instantiable C M)) (hini : ZW E (.initialized C)) (hc : vwCl[ci]? = some (C, T, M)) (hfs : ∀ j, j < M → defaultValue (ty j) = vp_V fs j) (hk : k + 1 = k') (hn : n + M = n') (hr : k' ≤ rm.cells ∧ n' ≤ rm.slots) (d : decode cc pc = .ok (.new i, 3)) (hw : ∀ q, w ++ [(q, .inr (ci, fs))] = w' q) (h : ∀ q : Nat, Z E N k' n' (w' q) lv (pc + 3) (.ref q :: st)) : Z E N k n w lv pc st := by
  obtain ⟨p, l, e, R, s, m, args, below, meth, c, D, A, Q⟩ := E
  obtain ⟨hx, hb, hml, hown, hts, hK, hN, hA, hR, hGl, hGd⟩ := F
  intro H locs ls hP hD hS hl
  subst hR hk hn
  refine va_new hx hb hts hin ty hty hown hcl hinst hini hK hP hD hS hA hc hfs hr.1 hr.2 d (fun q H1 hP1 hD1 hS1 => ?_)
  rw [hw q] at hP1 hD1
  exact h q H1 locs ls hP1 hD1 hS1 hl
set_option maxHeartbeats 100000 in
theorem z_newai (M : Nat) {v : Int32} (w' : Nat → va_W) (F : ZF E N cc own Ts rm G) (harr : ZW E (.arrayClass .int)) (hv : v = nI M) (hM31 : M < 2 ^ 31) (hM : M < 100000) (hk : k + 1 = k') (hn : n + M = n') (hr : k' ≤ rm.cells ∧ n' ≤ rm.slots) (d : decode cc pc = .ok (.newarray .int, 2)) (hw : ∀ q, w ++ [(q, .inl (G.2.2.1, M, .inl (fun _ => 0)))] = w' q) (h : ∀ q : Nat, Z E N k' n' (w' q) lv (pc + 2) (.ref q :: st)) : Z E N k n w lv pc (.int v :: st) := by
  obtain ⟨p, l, e, R, s, m, args, below, meth, c, D, A, Q⟩ := E
  obtain ⟨hx, hb, hml, hown, hts, hK, hN, hA, hR, hGl, hGd⟩ := F
  intro H locs ls hP hD hS hl
  subst hR
  subst hk
  subst hn
  subst hv
  have harr9 : (Cond.arrayClass .int).before args s = true := harr
  have harr8 : (Cond.arrayClass (newarray.typeOf .int)).before args s = true := by
    have e9 : newarray.typeOf .int = .int := rfl
    rw [e9]; exact harr9
  refine va_newa (atype := .int) (ty := .int) (n := nI M) (N' := M) (a0 := (M, .inl (fun _ => 0))) hx hb harr8 rfl hK hP hD hS hA (zb_i M) (nI_pos hM31) (nI_clamp hM31) (zb_4 hM) hr.1 hr.2 d (fun q cA H1 hK1 hP1 hD1 hS1 => ?_)
  have e1 : s.vm.findClass ("[" ++ FieldType.int.toString) = some cA := (hK1.2 2 (cA, .int) rfl).2
  have e2 : s.vm.findClass ("[" ++ FieldType.int.toString) = some G.2.2.1 := (hK.2 0 (G.2.2.1, .int) rfl).2
  have e : cA = G.2.2.1 := Option.some.inj (e1.symm.trans e2)
  clear e1 e2
  subst e
  rw [hw q] at hP1 hD1
  exact h q H1 locs ls hP1 hD1 hS1 hl
set_option maxHeartbeats 100000 in
theorem z_newaz (M : Nat) {v : Int32} (w' : Nat → va_W) (F : ZF E N cc own Ts rm G) (harr : ZW E (.arrayClass .boolean)) (hv : v = nI M) (hM31 : M < 2 ^ 31) (hM : M < 100000) (hk : k + 1 = k') (hn : n + M = n') (hr : k' ≤ rm.cells ∧ n' ≤ rm.slots) (d : decode cc pc = .ok (.newarray .boolean, 2)) (hw : ∀ q, w ++ [(q, .inl (G.2.2.2, M, .inl (fun _ => 0)))] = w' q) (h : ∀ q : Nat, Z E N k' n' (w' q) lv (pc + 2) (.ref q :: st)) : Z E N k n w lv pc (.int v :: st) := by
  obtain ⟨p, l, e, R, s, m, args, below, meth, c, D, A, Q⟩ := E
  obtain ⟨hx, hb, hml, hown, hts, hK, hN, hA, hR, hGl, hGd⟩ := F
  intro H locs ls hP hD hS hl
  subst hR
  subst hk
  subst hn
  subst hv
  have harr9 : (Cond.arrayClass .boolean).before args s = true := harr
  have harr8 : (Cond.arrayClass (newarray.typeOf .boolean)).before args s = true := by
    have e9 : newarray.typeOf .boolean = .boolean := rfl
    rw [e9]; exact harr9
  refine va_newa (atype := .boolean) (ty := .boolean) (n := nI M) (N' := M) (a0 := (M, .inl (fun _ => 0))) hx hb harr8 rfl hK hP hD hS hA (zb_z M) (nI_pos hM31) (nI_clamp hM31) (zb_1 hM) hr.1 hr.2 d (fun q cA H1 hK1 hP1 hD1 hS1 => ?_)
  have e1 : s.vm.findClass ("[" ++ FieldType.boolean.toString) = some cA := (hK1.2 2 (cA, .boolean) rfl).2
  have e2 : s.vm.findClass ("[" ++ FieldType.boolean.toString) = some G.2.2.2 := (hK.2 1 (G.2.2.2, .boolean) rfl).2
  have e : cA = G.2.2.2 := Option.some.inj (e1.symm.trans e2)
  clear e1 e2
  subst e
  rw [hw q] at hP1 hD1
  exact h q H1 locs ls hP1 hD1 hS1 hl
theorem z_putF {C : String} {T : u_T} {M ci i : Nat} {ref : String} {a : Nat} {fs : List Value} {v : Value} {ty : FieldType} (w' : va_W) (F : ZF E N cc own Ts rm G) (hI : ZI E) (hin : ∀ x ∈ u_ws C T M, x ∈ Ts) (ty0 : Nat → FieldType) (hty : ∀ k, k < M → parseFieldDescriptor (T k).2.2.1 = some (ty0 k)) (hnm : ∀ a, a < M → ∀ b, b < M → a ≠ b → (T a).2.1 ≠ (T b).2.1) (q0 : Nat) (he : w[q0]? = some (a, .inr (ci, fs))) (hc : vwCl[ci]? = some (C, T, M)) (j : Nat) (hj : j < M) (hlink : ZW E (.fieldLink own i ref (T j).2.1 (T j).2.2.1)) (hr : (T j).1 = ref) (hro : (T j).1 = own) (hfin : (T j).2.2.2 = true) (he0 : ty0 j = ty) (hn : narrow ty v = v) (hfit : fits ty v = true) (hl9 : j < fs.length) (hw : w.set q0 (a, .inr (ci, fs.set j v)) = w') (d : decode cc pc = .ok (.putfield i, 3)) (h : Z E N k n w' lv (pc + 3) st) : Z E N k n w lv pc (v :: .ref a :: st) := by
  obtain ⟨p, l, e, R, s, m, args, below, meth, c, D, A, Q⟩ := E
  obtain ⟨hx, hb, hml, hown, hts, hK, hN, hA, hR, hGl, hGd⟩ := F
  intro H locs ls hP hD hS hl
  subst hr
  subst hw
  exact va_putF hx hb hts hin ty0 hty hnm hown hK hP hD hS q0 he hc j hj hlink (fun _ h9 => h9) hfin hI hro (by rw [hty j hj, he0]) hn hfit hl9 d (fun H1 locs1 hP1 hD1 hS1 => h H1 locs1 ls hP1 hD1 hS1 hl)
theorem z_obj {i a : Nat} (F : ZF E N cc own Ts rm G) (h1 : ZW E (.methodLink own i objectInit)) (h2 : ZW E (.instanceMethod objectInit)) (h3 : ZW E (.code objectInit ⟨#[0xb1]⟩ 1 none)) (hr : 1 ≤ rm.frames ∧ (st.map fun v => v.category).sum + 12 ≤ rm.locals) (d : decode cc pc = .ok (.invokespecial i, 3)) (h : Z E N k n w lv (pc + 3) st) : Z E N k n w lv pc (.ref a :: st) := by
  obtain ⟨p, l, e, R, s, m, args, below, meth, c, D, A, Q⟩ := E
  obtain ⟨hx, hb, hml, hown, hts, hK, hN, hA, hR, hGl, hGd⟩ := F
  intro H locs ls hP hD hS hl
  subst hR
  refine W.objInit hx hb hown h1 h2 h3 rfl (hl.1.trans hml.symm) rfl d hr.1 ?_ (h H locs ls hP hD hS hl)
  show 2 * 0 + _ + 12 ≤ _
  have := hr.2
  omega
/-- a constructor's contract: from the fresh object's world w0 it makes mc cells of ms slots -/
def ZMc {S : Type} (G : ZG) (y : MethodName) (ws : List Cond) (rm : Room) (h0 : Nat) (w0 : va_W) (wf : S → va_W) (Q : S → Prop) (mc ms : Nat) : Prop := ∀ sz : Nat, Met G.1 y ws rm (zPc G [.ref h0] w0 sz) (va_Qv Q (fun u t => zB G (va_A w0 sz) (wf u) t) (va_A w0 sz)) mc ms (va_A w0 sz)
theorem z_ofc {S : Type} {y : MethodName} {ws ws' : List Cond} {h0 mc ms : Nat} {wf : S → va_W} {Q : S → Prop} (hy : plainName y.cls = true) (hyi : y.name = "<init>") (hw : ws = Cond.code y cc N none :: ws') (hlen : 1 ≤ N)
    (body : ∀ E : ZE, ZF E N cc y.cls ws rm G → ZI E → (∀ (u : S) (lv : List (Nat × Value)) (pc : Nat), Q u → decode cc pc = .ok (.return_, 1) → Z E N mc ms (wf u) lv pc []) → Z E N 0 0 w [(0, .ref h0)] 0 []) : ZMc G y ws rm h0 w wf Q mc ms := by
  intro sz
  refine Met.ofW (cc := cc) (maxL := N) (ret := none) hy hw ?_
  intro p e s m args below meth c s₁ B hml hv
  obtain ⟨rfl, hsz, hP, hK, hN, hD0⟩ := hv
  have hx := B.exec
  have hb := B.bytes
  have hr := B.returns
  have hts := atoms_spec (ws := ws) B.pre
  have hown : s.vm.findClass y.cls = some m.cls := findClass_of_methodNamed B.named
  have hlocks := B.notSynchronized
  have hin : meth.name = "<init>" := (name_of_methodNamed B.named B.method).1.trans hyi
  subst hsz
  have hD := hD0.self (sz := s.heap.size)
  have hA : ∀ q : Nat, s.heap.size ≤ q → va_A w s.heap.size q := fun q h => Or.inr h
  have hl := lv_entry [.ref h0] (n := N) hlen
  rw [lg_entry_eq]
  refine body (p, G.1, e, rm, s, m, [Value.ref h0].toArray, below, meth, c, G.2.1, va_A w s.heap.size, _) ⟨hx, hb, hml, hown, hts, hK, hN, hA, rfl, rfl, rfl⟩ hin ?_ s.heap [] _ hP hD va_S.rf hl
  intro u lv9 pc9 hq d H locs ls hP9 hD9 hS9 hl9
  exact W.vret hx hb hr (fun t ht hW => ⟨⟨u, rfl, hq, by rw [ht]; exact hP9, hD9⟩, hS9.F ht⟩) hS9.2.2 d hlocks
theorem z_callI {S : Type} {y : MethodName} {ws ws' : List Cond} {bytes : ByteArray} {maxL i b mc ms : Nat} {rm' : Room} {wc : va_W} {wf : S → va_W} {Q : S → Prop} (w' : S → va_W) (F : ZF E N cc own Ts rm G) (hM : ZMc G y ws rm' b wc wf Q mc ms) (hT : GoodIn Ts ws) (hlnk : ZW E (.methodLink own i y)) (hini : ZW E (.initialized y.cls)) (hinst : ZW E (.instanceMethod y)) (hw : ws = Cond.code y bytes maxL none :: ws') (hy1 : y.name = "<init>") (hd : y.cls ≠ "java/lang/invoke/MethodHandle" ∧ y.cls ≠ "java/lang/invoke/VarHandle" ∧ (parseMethodDescriptor y.desc).map (fun d => d.parameters.length) = some 0) (hz : rm'.cells = mc ∧ rm'.slots = ms ∧ rm'.frames + 1 ≤ rm.frames ∧ 8 + (maxL + 11) + rm'.locals ≤ rm.locals) (hk : k + mc = k') (hn0 : n + ms = n') (hr9 : k' ≤ rm.cells ∧ n' ≤ rm.slots) (isC isR perm : List Nat) (hC : isC.map (fun i => w[i]?) = wc.map some) (hR9 : isR.map (fun i => w[i]?) = (isR.filterMap (fun i => w[i]?)).map some) (hn : (va_nd isC && va_nd isR && va_nd perm && isR.all (fun i => !isC.contains i)) = true) (hp : ∀ u, perm.map (fun i => ((isR.filterMap (fun i => w[i]?)) ++ wf u)[i]?) = (w' u).map some) (hrest : (st.map fun v => v.category).sum ≤ 8) (d : decode cc pc = .ok (.invokespecial i, 3)) (h : ∀ u : S, Q u → Z E N k' n' (w' u) lv (pc + 3) st) : Z E N k n w lv pc (.ref b :: st) := by
  obtain ⟨p, l, e, R, s, m, args, below, meth, c, D, A, Qz⟩ := E
  obtain ⟨hx, hb, hml, hown, hts, hK, hN, hA, hR, hGl, hGd⟩ := F
  subst hR hGl hGd hk hn0
  simp only [Bool.and_eq_true] at hn
  obtain ⟨⟨⟨hn1, hn2⟩, hn3⟩, hn4⟩ := hn
  have hdis : ∀ i ∈ isR, i ∉ isC := fun i hi => by
    have := List.all_eq_true.mp hn4 i hi
    simpa using this
  intro H locs ls hP hD hS hl
  have hPc := hP.sub isC (z_fm hC)
  have hDc := hD.sub isC hn1 hC
  have hFc := va_free (wc := wc) hD hS hA isC hC
  refine va_callv (va_runI (As := []) (rest := st) ⟨hx, hb, hml, hown, hts⟩ (hM H.size) (cwI 0 hts hT hw hz.1 hz.2.1 hini hlnk hinst hy1 hd ⟨hz.2.2.1, hz.2.2.2⟩) ⟨zPc_blind G _ _ _, fun U hU hW => ⟨rfl, by rw [hU], by rw [hU]; exact hPc, va_K.moved hW.alike hK, zN.warm hW hN, hDc.weaken (fun _ _ _ _ => trivial)⟩⟩ rfl rfl hl.1 rfl (lv_room hrest) d hr9) hS (fun q _ h => hFc q h) hFc (fun u t H1 locs1 ht hvm hq hB hz1 hk1 hS1 => ?_)
  obtain ⟨hP1, hD1⟩ := hB
  rw [ht] at hP1
  obtain ⟨hP2, hD2⟩ := va_join (wr := isR.filterMap (fun i => w[i]?)) (w1 := wf u) hP hD isC isR hC hR9 hn2 hdis hk1 hFc hP1 hD1
  exact h u hq H1 locs1 ls (hP2.sub perm (z_fm (hp u))) (hD2.sub perm hn3 (hp u)) hS1 hl
theorem z_callIN {S : Type} {y : MethodName} {ws ws' : List Cond} {bytes : ByteArray} {maxL i b mc ms : Nat} {rm' : Room} {wc : va_W} {wf : S → va_W} {Q : S → Prop} (w' : S → va_W) (F : ZF E N cc own Ts rm G) (hM : ZMc G y ws rm' b wc wf Q mc ms) (hT : GoodIn Ts ws) (hNw : (own, i, y) ∈ zNl) (hini : ZW E (.initialized y.cls)) (hinst : ZW E (.instanceMethod y)) (hw : ws = Cond.code y bytes maxL none :: ws') (hy1 : y.name = "<init>") (hd : y.cls ≠ "java/lang/invoke/MethodHandle" ∧ y.cls ≠ "java/lang/invoke/VarHandle" ∧ (parseMethodDescriptor y.desc).map (fun d => d.parameters.length) = some 0) (hz : rm'.cells = mc ∧ rm'.slots = ms ∧ rm'.frames + 1 ≤ rm.frames ∧ 8 + (maxL + 11) + rm'.locals ≤ rm.locals) (hk : k + mc = k') (hn0 : n + ms = n') (hr9 : k' ≤ rm.cells ∧ n' ≤ rm.slots) (isC isR perm : List Nat) (hC : isC.map (fun i => w[i]?) = wc.map some) (hR9 : isR.map (fun i => w[i]?) = (isR.filterMap (fun i => w[i]?)).map some) (hn : (va_nd isC && va_nd isR && va_nd perm && isR.all (fun i => !isC.contains i)) = true) (hp : ∀ u, perm.map (fun i => ((isR.filterMap (fun i => w[i]?)) ++ wf u)[i]?) = (w' u).map some) (hrest : (st.map fun v => v.category).sum ≤ 8) (d : decode cc pc = .ok (.invokespecial i, 3)) (h : ∀ u : S, Q u → Z E N k' n' (w' u) lv (pc + 3) st) : Z E N k n w lv pc (.ref b :: st) := by
  obtain ⟨p, l, e, R, s, m, args, below, meth, c, D, A, Qz⟩ := E
  obtain ⟨hx, hb, hml, hown, hts, hK, hN, hA, hR, hGl, hGd⟩ := F
  subst hR hGl hGd hk hn0
  simp only [Bool.and_eq_true] at hn
  obtain ⟨⟨⟨hn1, hn2⟩, hn3⟩, hn4⟩ := hn
  have hdis : ∀ i ∈ isR, i ∉ isC := fun i hi => by
    have := List.all_eq_true.mp hn4 i hi
    simpa using this
  intro H locs ls hP hD hS hl
  have hPc := hP.sub isC (z_fm hC)
  have hDc := hD.sub isC hn1 hC
  have hFc := va_free (wc := wc) hD hS hA isC hC
  refine va_callv (va_runIN (host := "ColourEcho") (As := []) (rest := st) ⟨hx, hb, hml, hown, hts⟩ (hM H.size) (⟨va_cnB 0 hts hT hw hz.1 hz.2.1 (hN _ hNw) hini hd ⟨hz.2.2.1, hz.2.2.2⟩, hy1, hinst⟩) ⟨zPc_blind G _ _ _, fun U hU hW => ⟨rfl, by rw [hU], by rw [hU]; exact hPc, va_K.moved hW.alike hK, zN.warm hW hN, hDc.weaken (fun _ _ _ _ => trivial)⟩⟩ rfl rfl hl.1 rfl (lv_room hrest) d hr9) hS (fun q _ h => hFc q h) hFc (fun u t H1 locs1 ht hvm hq hB hz1 hk1 hS1 => ?_)
  obtain ⟨hP1, hD1⟩ := hB
  rw [ht] at hP1
  obtain ⟨hP2, hD2⟩ := va_join (wr := isR.filterMap (fun i => w[i]?)) (w1 := wf u) hP hD isC isR hC hR9 hn2 hdis hk1 hFc hP1 hD1
  exact h u hq H1 locs1 ls (hP2.sub perm (z_fm (hp u))) (hD2.sub perm hn3 (hp u)) hS1 hl
end
