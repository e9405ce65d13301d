/-! Calls caught. -/
section GW
variable {p : Program} {l : Launch} {e : Env} {R : Room} {s : State} {m : MethodId} {args : Array Value} {below : List Frame} {meth : Method} {c : Code}
variable {cc : ByteArray} {nL : Nat} {own : String} {Ts : List Cond} {D : va_G} {TY : List (ClassId × FieldType)} {A : Nat → Prop}
variable {k j : Nat} {Q : State → Prop} {w : va_W} {lv : List (Nat × Value)} {pc : Nat} {st rest : List Value}
variable {y : MethodName} {bytes : ByteArray} {maxL fr lo n ix na : Nat} {ret : Option FieldType} {ws ws' : List Cond} {av As : List Value} {wc w1 wl wr : va_W} {rv : Option Value} {E : String}
/-- a call by an object that throws, caught here -/
theorem g_callVC {C0 : String} {fs : List Value} {T : u_T} {N b ci : Nat} (K : va_W → va_W) (hK : wX K wl wr) (hM : MC l y ws fr lo D TY (.ref b :: As) wc w1 (some E) rv n) (C : gC p s m args meth c cc nL own Ts D TY A) (hG : GoodIn Ts (wsV own ix C0 y ws)) (hw : ws = Cond.code y bytes maxL ret :: ws')
    (hd : y.cls = C0 ∧ y.cls ≠ "java/lang/invoke/MethodHandle" ∧ y.cls ≠ "java/lang/invoke/VarHandle" ∧ (parseMethodDescriptor y.desc).map (fun d => d.parameters.length) = some na) (hna : As.length = na) (hR : fr + 1 ≤ R.frames ∧ 8 + (maxL + 11) + lo ≤ R.locals)
    (he : wc[0]? = some (b, .inr (ci, fs))) (hc : vwCl[ci]? = some (C0, T, N))
    (hst : st = As.reverse ++ .ref b :: rest) (hW : (rest.map fun v => v.category).sum ≤ 8) (hf : k + n ≤ R.cells ∧ j + 6 * n ≤ R.slots) (hdg : decode cc pc = .ok (.invokevirtual ix, 3))
    {hh : List (Nat × Nat × Nat × Nat)} (htab : c.exceptionTable.toList = tableOf hh) (pre : List ExceptionTableEntry) (x : ExceptionTableEntry) (suf : List ExceptionTableEntry) (hsplit : tableOf hh = pre ++ x :: suf)
    (hpass : ∀ z ∈ pre, z.catchType ≠ 0 ∧ ∃ nm : String, Cond.classLink own z.catchType nm ∈ Ts ∧ va_Nc E nm s) (hx : covers x pc = true) (h0 : x.catchType ≠ 0) (hlink : Cond.classLink own x.catchType E ∈ Ts) (hE : Cond.castable E E ∈ xeB)
    (KK : ∀ q : Nat, G p l e R s m args below meth c D A nL (k + n) (j + 6 * n) Q (K wc) lv x.handlerPc [.ref q]) : G p l e R s m args below meth c D A nL k j Q (K wc) lv pc st := by
  subst hst; subst hna
  intro H locs ls hP hD hS hl
  have hA := C.2.2.2.2.2.2.1
  have hr : vx_Run p l e R s m args below meth c H locs k j n (6 * n) (F0 m pc ls (As.reverse ++ .ref b :: rest)) rest (mQ D wc w1 (some E) rv H.size (Value.ref b :: As).toArray) (mX D wc (some E) H.size) (va_A wc H.size) := vx_runV (As := As) (rest := rest) ⟨C.1, C.2.1, C.2.2.1, C.2.2.2.1, C.2.2.2.2.1⟩ (hM H.size) (cwV As.length C.2.2.2.2.1 hG hw rfl rfl hd hR) ⟨mP_blind, va_recv C.2.2.2.2.2.1 (wX_P hK hP) hc he, mP_of hK C hP hD hS⟩ rfl rfl hl.1 rfl (lv_room hW) hdg hf
  intro T2 hT X
  rcases hr T2 hT X with ⟨v, st₀, t, T', L, h0', X', hL, e1, e2, ⟨⟨hv, hE', hP1⟩, hz, hk⟩, stp⟩ | ⟨q, st₀, t, T', L, E', ce, h0', X', hL, e1, e2, ⟨⟨hE', hP1⟩, hz, hk⟩, hce, hcv, hcl, stp⟩
  · cases hE'
  · cases hE'
    rw [h0'] at hz hk
    rw [← e1] at hz hk hP1 hce
    have hF := wX_free hK hD hS hA
    have hPn := wX_join hK hP hD hk hP1
    have hSn : va_S A s.heap T'.heap (locs ++ L) := ⟨Nat.le_trans hS.1 hz, fun q h1 h2 => by rw [hk q (Nat.lt_of_lt_of_le h1 hS.1) (fun z => h2 (hF q z))]; exact hS.2.1 q h1 h2, fun q hq => by
        rcases List.mem_append.mp hq with h | h
        · exact hS.2.2 q h
        · exact hF _ (hL q h)⟩
    have hB : (Cond.castable E E).before args s = true := va_Nw.use (xeB_tab _ hE) (C.2.2.2.2.2.2.2.2.2.2.2.1 _ hE)
    obtain ⟨t2, a1, b1⟩ := vx_catch (pc := pc) (ls := ls) (rest := rest) C.2.2.2.1 pre x suf (htab.trans hsplit) (fun z hz => Or.inr ⟨(hpass z hz).1, by obtain ⟨nm, h1, h2⟩ := (hpass z hz).2; exact ⟨nm, C.2.2.2.2.1 _ h1, h2⟩⟩) hx h0 (C.2.2.2.2.1 _ hlink) hB hce hcv hcl (KK q T'.heap (locs ++ L) ls hPn hD hSn hl) T' rfl X'
    exact ⟨t2, stp.trans a1, b1⟩
end GW
/-- a body with a table of its own -/
theorem MC.ofGH {l : Launch} {y : MethodName} {ws ws' : List Cond} {fr lo : Nat} {D : va_G} {TY : List (ClassId × FieldType)} {av : List Value} {w w' : va_W} {ex : Option String} {rv : Option Value} {n : Nat} {cc : ByteArray} {maxL : Nat} {ret : Option FieldType} {hh : List (Nat × Nat × Nat × Nat)} (lv0 : List (Nat × Value)) (hy : plainName y.cls = true) (hw : ws = Cond.codeWith y cc maxL ret hh :: ws') (hlen : (lg_sl av).length ≤ maxL) (hlv : lv_args 0 av = lv0)
    (body : ∀ (p : Program) (e : Env) (s : State) (m : MethodId) (args : Array Value) (below : List Frame) (meth : Method) (c : Code), gC p s m args meth c cc maxL y.cls ws D TY (va_A w s.heap.size) → meth.sig.returnType = ret → c.exceptionTable.toList = tableOf hh →
      G p l e { frames := fr, cells := n, slots := 6 * n, locals := lo } s m args below meth c D (va_A w s.heap.size) maxL 0 0 (gQ below D w w' ex rv n args s) w lv0 0 []) : MC l y ws fr lo D TY av w w' ex rv n := by
  intro sz
  refine vx_ofWH (cc := cc) (maxL := maxL) (ret := ret) (hh := hh) hy hw ?_
  intro p e s m args below meth c s₁ B hml hv
  have hwd : (Cond.codeWith y cc maxL ret hh).before args s = true := atoms_spec (ws := ws) B.pre _ (by rw [hw]; exact List.mem_cons_self)
  obtain ⟨rfl, rfl, hP, hK, hD0, hX⟩ := hv
  have hl := lv_entry av (n := maxL) hlen
  rw [lg_entry_eq]
  rw [hlv] at hl
  exact body p e s m _ below meth c ⟨B.exec, B.bytes, hml, findClass_of_methodNamed B.named, atoms_spec (ws := ws) B.pre, hK, fun q h => Or.inr h, B.notSynchronized, hX⟩ B.returns (vx_table (x := y) B hwd) s.heap [] _ hP hD0.self va_S.rf hl
