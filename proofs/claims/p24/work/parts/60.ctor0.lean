/-! Rows of the constructors. -/
def σz : gS := (fun _ => 0, fun _ _ => 0)
def cQ (D : va_G) (w : va_W) (wf : (Nat → Nat) → va_W) (h0 sz : Nat) : Array Value → State → Outcome → State → Prop := fun _ st o t => (o = .returned none ∧ ∃ h : Nat → Nat, h 0 = h0 ∧ va_P D vwCl (wf h) t.heap ∧ va_D (va_A w sz) (wf h)) ∧ va_F (va_A w sz) st t
def MI (l : Launch) (y : MethodName) (ws : List Cond) (fr lo : Nat) (D : va_G) (TY : List (ClassId × FieldType)) (h0 : Nat) (w : va_W) (wf : (Nat → Nat) → va_W) (mc ms : Nat) : Prop :=
  ∀ sz : Nat, Met l y ws { frames := fr, cells := mc, slots := ms, locals := lo } (mP D TY w [.ref h0] sz) (cQ D w wf h0 sz) mc ms (va_A w sz)
section GI
variable {p : Program} {l : Launch} {e : Env} {R : Room} {s : State} {m : MethodId} {args : Array Value} {below : List Frame} {meth : Method} {c : Code}
variable {cc : ByteArray} {nL : Nat} {own : String} {Ts : List Cond} {D : va_G} {TY : List (ClassId × FieldType)} {A : Nat → Prop}
variable {k j : Nat} {Q : State → Prop} {w : va_W} {lv : List (Nat × Value)} {pc : Nat} {st rest : List Value} {cI : ClassId}
theorem g_objInit {ix a : Nat} (C : gC p s m args meth c cc nL own Ts D TY A) (h1 : Cond.methodLink own ix Lib.objectInit ∈ Ts) (h2 : Cond.instanceMethod Lib.objectInit ∈ Ts) (h3 : Cond.code Lib.objectInit ⟨#[0xb1]⟩ 1 none ∈ Ts) (hd : decode cc pc = .ok (.invokespecial ix, 3)) (hf : 1 ≤ R.frames) (hlo : (st.map fun v => v.category).sum + 12 ≤ R.locals)
    (K : G p l e R s m args below meth c D A nL k j Q w lv (pc + 3) st) : G p l e R s m args below meth c D A nL k j Q w lv pc (.ref a :: st) := by
  intro H locs ls hP hD hS hl
  refine W.objInit C.1 C.2.1 C.2.2.2.1 (C.2.2.2.2.1 _ h1) (C.2.2.2.2.1 _ h2) (C.2.2.2.2.1 _ h3) (g := F0 m pc ls (.ref a :: st)) rfl (hl.1.trans C.2.2.1.symm) (a := a) (rest := st) rfl hd hf (by show 2 * 0 + _ + 12 ≤ _; omega) ?_
  exact W.eq (g2 := F0 m (pc + 3) ls st) rfl (K H locs ls hP hD hS hl)
theorem g_newa {n : Int32} (N : Nat) (C : gC p s m args meth c cc nL own Ts D TY A) (hT : TY[0]? = some (cI, .int)) (harr : Cond.arrayClass .int ∈ Ts) (hn : ¬ n < 0) (hN : n.toNatClampNeg = N) (hb : N ≤ 2000) (hc : k + 1 ≤ R.cells) (hs : j + N ≤ R.slots) (hd : decode cc pc = .ok (.newarray .int, 2))
    (K : ∀ q : Nat, G p l e R s m args below meth c D A nL (k + 1) (j + N) Q (w ++ [(q, .inl (cI, N, .inl (fun _ => 0)))]) lv (pc + 2) (.ref q :: st)) : G p l e R s m args below meth c D A nL k j Q w lv pc (.int n :: st) := by
  intro H locs ls hP hD hS hl
  refine va_newa (atype := .int) (ty := .int) C.1 C.2.1 (C.2.2.2.2.1 _ harr) rfl C.2.2.2.2.2.1 hP hD hS C.2.2.2.2.2.2.1 (N' := N) (a0 := (N, .inl (fun _ => 0))) (fun cA => rfl) hn hN (by have e4 : componentBytes .int = 4 := rfl; rw [e4]; omega) hc hs hd (fun q cA H1 hK' hP' hD' hS' => ?_)
  have h1 : s.vm.findClass ("[" ++ FieldType.int.toString) = some cA := (hK'.2 TY.length (cA, .int) (by simp)).2
  have h2 : s.vm.findClass ("[" ++ FieldType.int.toString) = some cI := (C.2.2.2.2.2.1.2 0 (cI, .int) hT).2
  have e9 : cA = cI := Option.some.inj (h1.symm.trans h2)
  subst e9
  exact K q H1 locs ls hP' hD' hS' hl
theorem g_putF {C0 : String} {T : u_T} {N ix : Nat} {fs : List Value} {a q : Nat} (q0 ci f : Nat) (w' : va_W) {ty0 : Nat → FieldType} (C : gC p s m args meth c cc nL own Ts D TY A) (hin : ∀ w ∈ u_ws C0 T N, w ∈ Ts) (hty : ∀ k, k < N → parseFieldDescriptor (T k).2.2.1 = some (ty0 k)) (hnm : ∀ a, a < N → ∀ b, b < N → a ≠ b → (T a).2.1 ≠ (T b).2.1) (he : w[q0]? = some (a, .inr (ci, fs))) (hc : vwCl[ci]? = some (C0, T, N)) (hf : f < N) (hlink : Cond.fieldLink own ix (T f).1 (T f).2.1 (T f).2.2.1 ∈ Ts) (hfin : (T f).2.2.2 = true) (hi : meth.name = "<init>") (hown : (T f).1 = own) (hdsc : parseFieldDescriptor (T f).2.2.1 = some (.array .int)) (hl : f < fs.length) (hw' : w.set q0 (a, .inr (ci, fs.set f (.ref q))) = w') (hd : decode cc pc = .ok (.putfield ix, 3)) (K : G p l e R s m args below meth c D A nL k j Q w' lv (pc + 3) st) : G p l e R s m args below meth c D A nL k j Q w lv pc (.ref q :: .ref a :: st) :=
  fun H locs ls hP hD hS hv => va_putF (D := D) (ci := ci) (v := .ref q) (ty := .array .int) (C := C0) (T := T) (N := N) C.1 C.2.1 C.2.2.2.2.1 hin ty0 hty hnm C.2.2.2.1 C.2.2.2.2.2.1 hP hD hS q0 he hc f hf (C.2.2.2.2.1 _ hlink) (fun _ h9 => h9) hfin hi hown hdsc rfl rfl hl hd (fun H1 locs1 hP1 hD1 hS1 => K H1 locs1 ls (hw' ▸ hP1) (hw' ▸ hD1) hS1 hv)
theorem g_cret {w0 : va_W} {wf : (Nat → Nat) → va_W} {h0 : Nat} (h : Nat → Nat) (C : gC p s m args meth c cc nL own Ts D TY (va_A w0 s.heap.size)) (hr : meth.sig.returnType = none) (hd : decode cc pc = .ok (.return_, 1)) (h00 : h 0 = h0) (hw : w = wf h) : G p l e R s m args below meth c D (va_A w0 s.heap.size) nL k j (MQ below (cQ D w0 wf h0 s.heap.size) args s k j (va_A w0 s.heap.size)) w lv pc [] := by
  intro H locs ls hP hD hS hl
  subst hw
  exact W.vret C.1 C.2.1 hr (fun t ht hW => ⟨⟨rfl, h, h00, by rw [ht]; exact hP, hD⟩, hS.F ht⟩) hS.2.2 hd C.2.2.2.2.2.2.2.1
end GI
theorem MI.ofG {l : Launch} {y : MethodName} {ws ws' : List Cond} {fr lo : Nat} {D : va_G} {TY : List (ClassId × FieldType)} {h0 : Nat} {w : va_W} {wf : (Nat → Nat) → va_W} {mc ms : Nat} {cc : ByteArray} {maxL : Nat} {ret : Option FieldType} (hy : plainName y.cls = true) (hy1 : y.name = "<init>") (hw : ws = Cond.code y cc maxL ret :: ws') (hlen : 1 ≤ maxL)
    (body : ∀ (p : Program) (e : Env) (s : State) (m : MethodId) (args : Array Value) (below : List Frame) (meth : Method) (c : Code), gC p s m args meth c cc maxL y.cls ws D TY (va_A w s.heap.size) → meth.sig.returnType = ret → meth.name = "<init>" →
      G p l e { frames := fr, cells := mc, slots := ms, locals := lo } s m args below meth c D (va_A w s.heap.size) maxL 0 0 (MQ below (cQ D w wf h0 s.heap.size) args s mc ms (va_A w s.heap.size)) w [(0, .ref h0)] 0 []) : MI l y ws fr lo D TY h0 w wf mc ms := by
  intro sz
  refine Met.ofW (cc := cc) (maxL := maxL) (ret := ret) hy hw ?_
  intro p e s m args below meth c s₁ B hml hv
  have hin : meth.name = "<init>" := (name_of_methodNamed B.named B.method).1.trans hy1
  obtain ⟨rfl, rfl, hP, hK, hD0, hX⟩ := hv
  have hl := lv_entry [.ref h0] (n := maxL) hlen
  rw [lg_entry_eq]
  exact body p e s m _ below meth c ⟨B.exec, B.bytes, hml, findClass_of_methodNamed B.named, atoms_spec (ws := ws) B.pre, hK, fun q h => Or.inr h, B.notSynchronized, hX⟩ B.returns hin s.heap [] _ hP hD0.self va_S.rf hl
