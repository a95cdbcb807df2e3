/-- the law's script: its ints, its place ahead of all that is made -/
def ZX (E : ZE) (b L : Nat) (xs : Nat → Int32) : Prop := match E with
  | (_, _, _, _, s, _, _, _, _, _, _, A, _) => va_X b L xs s s.heap ∧ b < s.heap.size ∧ ¬ A b
section
variable {E : ZE} {N k n : Nat} {w : va_W} {lv : List (Nat × Value)} {pc : Nat} {st : List Value} {cc : ByteArray} {own : String} {Ts : List Cond} {rm : Room} {G : ZG}
theorem z_slen {b L : Nat} {xs : Nat → Int32} (F : ZF E N cc own Ts rm G) (X : ZX E b L xs) (d : decode cc pc = .ok (.arraylength, 1)) (h : Z E N k n w lv (pc + 1) (.int (Int32.ofNat L) :: st)) : Z E N k n w lv pc (.ref b :: st) := by
  obtain ⟨p, l, e, R, s, m, args, below, meth, c, D, A, Q⟩ := E
  obtain ⟨hx, hb, hml, hown, hts, hK, hN, hA, hR, hGl, hGd⟩ := F
  obtain ⟨hX, hbl, hbA⟩ := X
  intro H locs ls hP hD hS hl
  exact va_slen hx hb hX hbl hbA hS d (h H locs ls hP hD hS hl)
theorem z_sld {b L : Nat} {xs : Nat → Int32} {i : Int32} (F : ZF E N cc own Ts rm G) (X : ZX E b L xs) (hi : vp_in i L) (d : decode cc pc = .ok (.iaload, 1)) (h : Z E N k n w lv (pc + 1) (.int (xs i.toNatClampNeg) :: st)) : Z E N k n w lv pc (.int i :: .ref b :: st) := by
  obtain ⟨p, l, e, R, s, m, args, below, meth, c, D, A, Q⟩ := E
  obtain ⟨hx, hb, hml, hown, hts, hK, hN, hA, hR, hGl, hGd⟩ := F
  obtain ⟨hX, hbl, hbA⟩ := X
  intro H locs ls hP hD hS hl
  exact va_sld hx hb hX hbl hbA hS hi d (h H locs ls hP hD hS hl)
end
section
variable {E : ZE} {N k n : Nat} {w : va_W} {lv : List (Nat × Value)} {pc : Nat} {st : List Value} {cc : ByteArray} {own : String} {Ts : List Cond} {rm : Room} {G : ZG}
theorem z_callVi2 {S : Type} {y : MethodName} {ws ws' : List Cond} {bytes : ByteArray} {maxL i : Nat} {ret : Option FieldType} {rm' : Room} {As rest : List Value} {wc : va_W} {wf : S → va_W} {Q : Int32 → S → Prop} {C : String} {T : u_T} {M0 b ci : Nat} {fs : List Value} (wr : va_W) (w' : S → va_W) (F : ZF E N cc own Ts rm G) (hM : ZMi G y ws rm' (.ref b :: As) wc wf Q) (hT : GoodIn Ts (wsV own i C y ws)) (hw : ws = Cond.code y bytes maxL ret :: ws') (hd : y.cls = C ∧ y.cls ≠ "java/lang/invoke/MethodHandle" ∧ y.cls ≠ "java/lang/invoke/VarHandle" ∧ (parseMethodDescriptor y.desc).map (fun d => d.parameters.length) = some As.length) (hz : rm'.cells = 0 ∧ rm'.slots = 0 ∧ rm'.frames + 1 ≤ rm.frames ∧ 8 + (maxL + 11) + rm'.locals ≤ rm.locals ∧ k ≤ rm.cells ∧ n ≤ rm.slots) (q0 : Nat) (he : w[q0]? = some (b, .inr (ci, fs))) (hc : vwCl[ci]? = some (C, T, M0)) (isC isR perm : List Nat) (hC : isC.map (fun i => w[i]?) = wc.map some) (hR9 : isR.map (fun i => w[i]?) = wr.map some) (hn : (va_nd isC && va_nd isR && va_nd perm && isR.all (fun i => !isC.contains i)) = true) (hp : ∀ u, perm.map (fun i => (wr ++ wf u)[i]?) = (w' u).map some) (hst : st = As.reverse ++ .ref b :: rest) (hrest : (rest.map fun v => v.category).sum ≤ 8) (d : decode cc pc = .ok (.invokevirtual i, 3)) (h : ∀ (r : Int32) (u : S), Q r u → Z E N k n (w' u) lv (pc + 3) (.int r :: rest)) : Z E N k n w lv pc st := by
  have e : isR.filterMap (fun i => w[i]?) = wr := z_fm hR9
  exact z_callVi w' F hM hT hw hd hz q0 he hc isC isR perm hC (by rw [e]; exact hR9) hn (fun u => by rw [e]; exact hp u) hst hrest d h
theorem z_callVl2 {S : Type} {y : MethodName} {ws ws' : List Cond} {bytes : ByteArray} {maxL i : Nat} {ret : Option FieldType} {rm' : Room} {As rest : List Value} {wc : va_W} {wf : S → va_W} {Q : Int64 → S → Prop} {C : String} {T : u_T} {M0 b ci : Nat} {fs : List Value} (wr : va_W) (w' : S → va_W) (F : ZF E N cc own Ts rm G) (hM : ZMl G y ws rm' (.ref b :: As) wc wf Q) (hT : GoodIn Ts (wsV own i C y ws)) (hw : ws = Cond.code y bytes maxL ret :: ws') (hd : y.cls = C ∧ y.cls ≠ "java/lang/invoke/MethodHandle" ∧ y.cls ≠ "java/lang/invoke/VarHandle" ∧ (parseMethodDescriptor y.desc).map (fun d => d.parameters.length) = some As.length) (hz : rm'.cells = 0 ∧ rm'.slots = 0 ∧ rm'.frames + 1 ≤ rm.frames ∧ 8 + (maxL + 11) + rm'.locals ≤ rm.locals ∧ k ≤ rm.cells ∧ n ≤ rm.slots) (q0 : Nat) (he : w[q0]? = some (b, .inr (ci, fs))) (hc : vwCl[ci]? = some (C, T, M0)) (isC isR perm : List Nat) (hC : isC.map (fun i => w[i]?) = wc.map some) (hR9 : isR.map (fun i => w[i]?) = wr.map some) (hn : (va_nd isC && va_nd isR && va_nd perm && isR.all (fun i => !isC.contains i)) = true) (hp : ∀ u, perm.map (fun i => (wr ++ wf u)[i]?) = (w' u).map some) (hst : st = As.reverse ++ .ref b :: rest) (hrest : (rest.map fun v => v.category).sum ≤ 8) (d : decode cc pc = .ok (.invokevirtual i, 3)) (h : ∀ (r : Int64) (u : S), Q r u → Z E N k n (w' u) lv (pc + 3) (.long r :: rest)) : Z E N k n w lv pc st := by
  have e : isR.filterMap (fun i => w[i]?) = wr := z_fm hR9
  exact z_callVl w' F hM hT hw hd hz q0 he hc isC isR perm hC (by rw [e]; exact hR9) hn (fun u => by rw [e]; exact hp u) hst hrest d h
end
