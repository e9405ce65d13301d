/-- the texts of the class's exceptions, by their places in its table -/
def xeStr : List (Nat × String) := [(56, "no more pigments"), (71, "no more tubes"), (76, "no more pots"), (78, "the tube has not so much"), (90, "the pots are the same"), (97, "the pot has not so much"), (108, "no more pictures"), (114, "no more layers"), (119, "the picture has not so many layers"), (121, "the picture has too many cracks"), (127, "the picture has no layer"), (132, "the book ends before that day"), (163, "there is no such number"), (166, "out of range"), (168, "the picture is lent")]
/-! The walk's own judgement over the kit's W: worlds, locals and stack as data; one kind of contract (returns or throws) for all methods. -/
def iM (n : String) : MethodName := Bundle.initS n
abbrev xeN : List String := ["java/lang/RuntimeException", "java/lang/Exception"]
abbrev eISE : String := "java/lang/IllegalStateException"
abbrev eIAE : String := "java/lang/IllegalArgumentException"
abbrev eIOB : String := "java/lang/IndexOutOfBoundsException"
def xeB : List Cond := [.declares (iM "java/lang/RuntimeException"), .declares (iM "java/lang/Exception"), .declares (iM Bundle.tN), .castable eISE eISE, .castable eIAE eIAE, .castable eIOB eIOB]
theorem xeB_tab : ∀ w ∈ xeB, w.onTables = true := by decide +kernel
theorem xeB_warm {s U : State} (hW : s.WarmedH U.vm) : ∀ w ∈ xeB, va_Nw w s → va_Nw w U := by
  intro w hw h
  simp only [xeB, List.mem_cons, List.not_mem_nil, or_false] at hw
  rcases hw with rfl | rfl | rfl | rfl | rfl | rfl
  · exact va_Nw.warmD hW h
  · exact va_Nw.warmD hW h
  · exact va_Nw.warmD hW h
  · exact va_Nw.warmC hW h
  · exact va_Nw.warmC hW h
  · exact va_Nw.warmC hW h
/-- what a throw and a catch need beside the method's words -/
def XE (A : Nat → Prop) (U : State) : Prop :=
  vx_Zq Bundle.tN "UNASSIGNED_STACK" Bundle.steD A U U.heap ∧ vx_Zq Bundle.tN "SUPPRESSED_SENTINEL" Bundle.listD A U U.heap ∧ (∀ q ∈ xeStr, ∃ a, vk_R RX0 q.1 q.2 a U) ∧ (∀ w ∈ xeB, va_Nw w U) ∧ True
theorem XE.to {A B : Nat → Prop} {s U : State} {H : Heap} {locs : List Loc} (hX : XE A s) (hS : va_S A s.heap H locs) (hU : U.heap = H) (hW : s.WarmedH U.vm) (hAB : ∀ q, B q → A q) : XE B U := by
  obtain ⟨h1, h2, h3, h4, -⟩ := hX
  refine ⟨?_, ?_, fun q hq => ?_, fun w hw => xeB_warm hW w hw (h4 w hw), trivial⟩
  · rw [hU]; exact vx_Zq.moved hW.alike ((h1.kept hS.2.1).narrow hAB)
  · rw [hU]; exact vx_Zq.moved hW.alike ((h2.kept hS.2.1).narrow hAB)
  · obtain ⟨a, ha⟩ := h3 q hq
    exact ⟨a, vk_R.warm hW ha⟩
theorem XE.same {A : Nat → Prop} {u U : State} (hX : XE A u) (hv : U.vm = u.vm) (hh : U.heap = u.heap) : XE A U := by
  obtain ⟨h1, h2, h3, h4, -⟩ := hX
  have hal : u.vm.Alike U.vm := by rw [hv]; exact Vm.Alike.refl _
  refine ⟨?_, ?_, fun q hq => ?_, fun w hw => va_Nw.same (xeB_tab w hw) hv.symm (h4 w hw), trivial⟩
  · rw [hh]; exact vx_Zq.moved hal h1
  · rw [hh]; exact vx_Zq.moved hal h2
  · obtain ⟨a, ha⟩ := h3 q hq
    exact ⟨a, vk_R.same hv ha⟩
-- contracts
def mP (D : va_G) (TY : List (ClassId × FieldType)) (w : va_W) (av : List Value) (sz : Nat) : Array Value → State → Prop := fun a U => a = av.toArray ∧ U.heap.size = sz ∧ va_P D vwCl w U.heap ∧ va_K D vwCl TY U ∧ va_D (fun _ => True) w ∧ XE (va_A w sz) U
def mQ (D : va_G) (w w' : va_W) (ex : Option String) (rv : Option Value) (sz : Nat) : Array Value → State → Outcome → State → Prop := fun _ st o t => (o = .returned rv ∧ ex = none ∧ va_P D vwCl w' t.heap) ∧ va_F (va_A w sz) st t
def mX (D : va_G) (w : va_W) (ex : Option String) (sz : Nat) : String → State → State → Prop := fun E st t => (ex = some E ∧ va_P D vwCl w t.heap) ∧ va_F (va_A w sz) st t
/-- method y, called with av in the world w, returns rv with the world w' (ex none), or throws ex with the world w; n cells of 6 slots are new at most -/
def MC (l : Launch) (y : MethodName) (ws : List Cond) (fr lo : Nat) (D : va_G) (TY : List (ClassId × FieldType)) (av : List Value) (w w' : va_W) (ex : Option String) (rv : Option Value) (n : Nat) : Prop :=
  ∀ sz : Nat, vx_Met l y ws { frames := fr, cells := n, slots := 6 * n, locals := lo } (mP D TY w av sz) (mQ D w w' ex rv sz) (mX D w ex sz) n (6 * n) (va_A w sz)
theorem mP_blind {D : va_G} {TY : List (ClassId × FieldType)} {w : va_W} {av : List Value} {sz : Nat} : FrameBlind (mP D TY w av sz) := by
  intro a U g mk h
  obtain ⟨h1, h2, h3, h4, h5, h6⟩ := h
  exact ⟨h1, h2, h3, va_K.moved (u := U) (U := U.calling g mk a) (Vm.Alike.refl U.vm) h4, h5, XE.same (u := U) h6 rfl rfl⟩
section GJ
variable {p : Program} {l : Launch} {e : Env} {R : Room} {s : State} {m : MethodId} {args : Array Value} {below : List Frame} {meth : Method} {c : Code}
variable {cc : ByteArray} {nL : Nat} {own : String} {Ts : List Cond} {D : va_G} {TY : List (ClassId × FieldType)} {A : Nat → Prop}
variable {k j : Nat} {Q : State → Prop} {w : va_W} {lv : List (Nat × Value)} {pc : Nat} {st rest : List Value}
/-- what stays the same in a method's walk -/
def gC (p : Program) (s : State) (m : MethodId) (args : Array Value) (meth : Method) (c : Code) (cc : ByteArray) (nL : Nat) (own : String) (Ts : List Cond) (D : va_G) (TY : List (ClassId × FieldType)) (A : Nat → Prop) : Prop :=
  p.tables.exec = Jvm.exec ∧ c.code = cc ∧ c.maxLocals = nL ∧ s.vm.findClass own = some m.cls ∧ (∀ w ∈ Ts, w.before args s = true) ∧ va_K D vwCl TY s ∧ (∀ q : Nat, s.heap.size ≤ q → A q) ∧ meth.locks = false ∧ XE A s
/-- the machine, at pc, in the world w with the locals lv and the stack st, comes to Q -/
def G (p : Program) (l : Launch) (e : Env) (R : Room) (s : State) (m : MethodId) (args : Array Value) (below : List Frame) (meth : Method) (c : Code) (D : va_G) (A : Nat → Prop) (nL k j : Nat) (Q : State → Prop) (w : va_W) (lv : List (Nat × Value)) (pc : Nat) (st : List Value) : Prop :=
  ∀ (H : Heap) (locs : List Loc) (ls : Array Slot), va_P D vwCl w H → va_D A w → va_S A s.heap H locs → lv_has ls nL lv → W p l e R s m args below meth c H locs k j Q (F0 m pc ls st)
theorem g_iconst {n : Int} (v : Int32) (C : gC p s m args meth c cc nL own Ts D TY A) (hd : decode cc pc = .ok (.iconst n, 1)) (hv : Int32.ofInt n = v) (K : G p l e R s m args below meth c D A nL k j Q w lv (pc + 1) (.int v :: st)) : G p l e R s m args below meth c D A nL k j Q w lv pc st :=
  fun H locs ls hP hD hS hl => lv_iconst C.1 C.2.1 hd hv (K H locs ls hP hD hS hl)
theorem g_bipush {n : Int} (v : Int32) (C : gC p s m args meth c cc nL own Ts D TY A) (hd : decode cc pc = .ok (.bipush n, 2)) (hv : (Int8.ofInt n).toInt32 = v) (K : G p l e R s m args below meth c D A nL k j Q w lv (pc + 2) (.int v :: st)) : G p l e R s m args below meth c D A nL k j Q w lv pc st :=
  fun H locs ls hP hD hS hl => lv_bipush C.1 C.2.1 hd hv (K H locs ls hP hD hS hl)
theorem g_sipush {n : Int} (v : Int32) (C : gC p s m args meth c cc nL own Ts D TY A) (hd : decode cc pc = .ok (.sipush n, 3)) (hv : (Int16.ofInt n).toInt32 = v) (K : G p l e R s m args below meth c D A nL k j Q w lv (pc + 3) (.int v :: st)) : G p l e R s m args below meth c D A nL k j Q w lv pc st :=
  fun H locs ls hP hD hS hl => lv_sipush C.1 C.2.1 hd hv (K H locs ls hP hD hS hl)
theorem g_ldc {ix : Nat} (v : Int32) (C : gC p s m args meth c cc nL own Ts D TY A) (hc : Cond.constant own ix v ∈ Ts) (hd : decode cc pc = .ok (.ldc ix, 2)) (K : G p l e R s m args below meth c D A nL k j Q w lv (pc + 2) (.int v :: st)) : G p l e R s m args below meth c D A nL k j Q w lv pc st :=
  fun H locs ls hP hD hS hl => lv_ldc C.1 C.2.1 C.2.2.2.1 (C.2.2.2.2.1 _ hc) hd (K H locs ls hP hD hS hl)
theorem g_iload_n {f : Fin 4} {i : Nat} {x : Int32} (q : Nat) (C : gC p s m args meth c cc nL own Ts D TY A) (hj : lv[q]? = some (i, .int x)) (hd : decode cc pc = .ok (.iload_n f, 1)) (hi : (f : Nat) = i) (K : G p l e R s m args below meth c D A nL k j Q w lv (pc + 1) (.int x :: st)) : G p l e R s m args below meth c D A nL k j Q w lv pc st :=
  fun H locs ls hP hD hS hl => lv_iload_n C.1 C.2.1 hd hi (lv_at hl q hj) (K H locs ls hP hD hS hl)
theorem g_iload {i : Nat} {x : Int32} (q : Nat) (C : gC p s m args meth c cc nL own Ts D TY A) (hj : lv[q]? = some (i, .int x)) (hd : decode cc pc = .ok (.iload i, 2)) (K : G p l e R s m args below meth c D A nL k j Q w lv (pc + 2) (.int x :: st)) : G p l e R s m args below meth c D A nL k j Q w lv pc st :=
  fun H locs ls hP hD hS hl => lv_iload C.1 C.2.1 hd (lv_at hl q hj) (K H locs ls hP hD hS hl)
theorem g_aload_n {f : Fin 4} {i x : Nat} (q : Nat) (C : gC p s m args meth c cc nL own Ts D TY A) (hj : lv[q]? = some (i, .ref x)) (hd : decode cc pc = .ok (.aload_n f, 1)) (hi : (f : Nat) = i) (K : G p l e R s m args below meth c D A nL k j Q w lv (pc + 1) (.ref x :: st)) : G p l e R s m args below meth c D A nL k j Q w lv pc st :=
  fun H locs ls hP hD hS hl => lv_aload_n C.1 C.2.1 hd hi (lv_at hl q hj) (K H locs ls hP hD hS hl)
theorem g_aload {i x : Nat} (q : Nat) (C : gC p s m args meth c cc nL own Ts D TY A) (hj : lv[q]? = some (i, .ref x)) (hd : decode cc pc = .ok (.aload i, 2)) (K : G p l e R s m args below meth c D A nL k j Q w lv (pc + 2) (.ref x :: st)) : G p l e R s m args below meth c D A nL k j Q w lv pc st :=
  fun H locs ls hP hD hS hl => lv_aload C.1 C.2.1 hd (lv_at hl q hj) (K H locs ls hP hD hS hl)
theorem g_istore_n {f : Fin 4} {i : Nat} {x : Int32} (lv' : List (Nat × Value)) (C : gC p s m args meth c cc nL own Ts D TY A) (hd : decode cc pc = .ok (.istore_n f, 1)) (hi : (f : Nat) = i) (hn : i < nL) (hl : (i, Value.int x) :: lv.filter (fun q => !(q.1 == i) && !(q.1 + 1 == i && q.2.category == 2)) = lv') (K : G p l e R s m args below meth c D A nL k j Q w lv' (pc + 1) st) : G p l e R s m args below meth c D A nL k j Q w lv pc (.int x :: st) :=
  fun H locs _ hP hD hS hv => lv_istore_n C.1 C.2.1 hd hi hv hn hl (fun ls' hl' => K H locs ls' hP hD hS hl')
theorem g_istore {i : Nat} {x : Int32} (lv' : List (Nat × Value)) (C : gC p s m args meth c cc nL own Ts D TY A) (hd : decode cc pc = .ok (.istore i, 2)) (hn : i < nL) (hl : (i, Value.int x) :: lv.filter (fun q => !(q.1 == i) && !(q.1 + 1 == i && q.2.category == 2)) = lv') (K : G p l e R s m args below meth c D A nL k j Q w lv' (pc + 2) st) : G p l e R s m args below meth c D A nL k j Q w lv pc (.int x :: st) :=
  fun H locs _ hP hD hS hv => lv_istore C.1 C.2.1 hd hv hn hl (fun ls' hl' => K H locs ls' hP hD hS hl')
theorem g_astore_n {f : Fin 4} {i x : Nat} (lv' : List (Nat × Value)) (C : gC p s m args meth c cc nL own Ts D TY A) (hd : decode cc pc = .ok (.astore_n f, 1)) (hi : (f : Nat) = i) (hn : i < nL) (hl : (i, Value.ref x) :: lv.filter (fun q => !(q.1 == i) && !(q.1 + 1 == i && q.2.category == 2)) = lv') (K : G p l e R s m args below meth c D A nL k j Q w lv' (pc + 1) st) : G p l e R s m args below meth c D A nL k j Q w lv pc (.ref x :: st) :=
  fun H locs _ hP hD hS hv => lv_astore_n C.1 C.2.1 hd hi hv hn hl (fun ls' hl' => K H locs ls' hP hD hS hl')
theorem g_astore {i x : Nat} (lv' : List (Nat × Value)) (C : gC p s m args meth c cc nL own Ts D TY A) (hd : decode cc pc = .ok (.astore i, 2)) (hn : i < nL) (hl : (i, Value.ref x) :: lv.filter (fun q => !(q.1 == i) && !(q.1 + 1 == i && q.2.category == 2)) = lv') (K : G p l e R s m args below meth c D A nL k j Q w lv' (pc + 2) st) : G p l e R s m args below meth c D A nL k j Q w lv pc (.ref x :: st) :=
  fun H locs _ hP hD hS hv => lv_astore C.1 C.2.1 hd hv hn hl (fun ls' hl' => K H locs ls' hP hD hS hl')
theorem g_iinc {i : Nat} {n : Int} {x : Int32} (q : Nat) (v : Int32) (lv' : List (Nat × Value)) (C : gC p s m args meth c cc nL own Ts D TY A) (hd : decode cc pc = .ok (.iinc i n, 3)) (hj : lv[q]? = some (i, .int x)) (hv : x + Int32.ofInt n = v) (hn : i < nL) (hl : (i, Value.int v) :: lv.filter (fun q => !(q.1 == i) && !(q.1 + 1 == i && q.2.category == 2)) = lv') (K : G p l e R s m args below meth c D A nL k j Q w lv' (pc + 3) st) : G p l e R s m args below meth c D A nL k j Q w lv pc st :=
  fun H locs _ hP hD hS hh => lv_iinc (v := v) (lv' := lv') C.1 C.2.1 hd hh hj hv hn hl (fun ls' hl' => K H locs ls' hP hD hS hl')
theorem g_iadd {x y : Int32} (C : gC p s m args meth c cc nL own Ts D TY A) (hd : decode cc pc = .ok (.iadd, 1)) (K : G p l e R s m args below meth c D A nL k j Q w lv (pc + 1) (.int (x + y) :: st)) : G p l e R s m args below meth c D A nL k j Q w lv pc (.int y :: .int x :: st) :=
  fun H locs ls hP hD hS hl => lv_iadd C.1 C.2.1 hd (K H locs ls hP hD hS hl)
theorem g_isub {x y : Int32} (C : gC p s m args meth c cc nL own Ts D TY A) (hd : decode cc pc = .ok (.isub, 1)) (K : G p l e R s m args below meth c D A nL k j Q w lv (pc + 1) (.int (x - y) :: st)) : G p l e R s m args below meth c D A nL k j Q w lv pc (.int y :: .int x :: st) :=
  fun H locs ls hP hD hS hl => lv_isub C.1 C.2.1 hd (K H locs ls hP hD hS hl)
theorem g_imul {x y : Int32} (C : gC p s m args meth c cc nL own Ts D TY A) (hd : decode cc pc = .ok (.imul, 1)) (K : G p l e R s m args below meth c D A nL k j Q w lv (pc + 1) (.int (x * y) :: st)) : G p l e R s m args below meth c D A nL k j Q w lv pc (.int y :: .int x :: st) :=
  fun H locs ls hP hD hS hl => lv_imul C.1 C.2.1 hd (K H locs ls hP hD hS hl)
theorem g_iand {x y : Int32} (C : gC p s m args meth c cc nL own Ts D TY A) (hd : decode cc pc = .ok (.iand, 1)) (K : G p l e R s m args below meth c D A nL k j Q w lv (pc + 1) (.int (x &&& y) :: st)) : G p l e R s m args below meth c D A nL k j Q w lv pc (.int y :: .int x :: st) :=
  fun H locs ls hP hD hS hl => lv_iand C.1 C.2.1 hd (K H locs ls hP hD hS hl)
theorem g_idiv {x y : Int32} (C : gC p s m args meth c cc nL own Ts D TY A) (hne : ¬ y = 0) (hd : decode cc pc = .ok (.idiv, 1)) (K : G p l e R s m args below meth c D A nL k j Q w lv (pc + 1) (.int (x / y) :: st)) : G p l e R s m args below meth c D A nL k j Q w lv pc (.int y :: .int x :: st) :=
  fun H locs ls hP hD hS hl => lv_idiv C.1 C.2.1 hd hne (K H locs ls hP hD hS hl)
theorem g_ineg {x : Int32} (C : gC p s m args meth c cc nL own Ts D TY A) (hd : decode cc pc = .ok (.ineg, 1)) (K : G p l e R s m args below meth c D A nL k j Q w lv (pc + 1) (.int (-x) :: st)) : G p l e R s m args below meth c D A nL k j Q w lv pc (.int x :: st) :=
  fun H locs ls hP hD hS hl => lv_ineg C.1 C.2.1 hd (K H locs ls hP hD hS hl)
theorem g_i2l {x : Int32} (C : gC p s m args meth c cc nL own Ts D TY A) (hd : decode cc pc = .ok (.i2l, 1)) (K : G p l e R s m args below meth c D A nL k j Q w lv (pc + 1) (.long x.toInt64 :: st)) : G p l e R s m args below meth c D A nL k j Q w lv pc (.int x :: st) :=
  fun H locs ls hP hD hS hl => lv_i2l C.1 C.2.1 hd rfl (K H locs ls hP hD hS hl)
theorem g_lcmp {x y : Int64} (C : gC p s m args meth c cc nL own Ts D TY A) (hd : decode cc pc = .ok (.lcmp, 1)) (K : G p l e R s m args below meth c D A nL k j Q w lv (pc + 1) (.int (lg_cmp x y) :: st)) : G p l e R s m args below meth c D A nL k j Q w lv pc (.long y :: .long x :: st) :=
  fun H locs ls hP hD hS hl => W.lcmp C.1 C.2.1 hd (K H locs ls hP hD hS hl)
theorem g_dup {v : Value} (C : gC p s m args meth c cc nL own Ts D TY A) (hd : decode cc pc = .ok (.dup, 1)) (hv : v.category = 1) (K : G p l e R s m args below meth c D A nL k j Q w lv (pc + 1) (v :: v :: st)) : G p l e R s m args below meth c D A nL k j Q w lv pc (v :: st) :=
  fun H locs ls hP hD hS hl => lv_dup C.1 C.2.1 hd hv (K H locs ls hP hD hS hl)
theorem g_dup2 {v u : Value} (C : gC p s m args meth c cc nL own Ts D TY A) (hd : decode cc pc = .ok (.dup2, 1)) (hv : v.category = 1) (hu : u.category = 1) (K : G p l e R s m args below meth c D A nL k j Q w lv (pc + 1) (v :: u :: v :: u :: st)) : G p l e R s m args below meth c D A nL k j Q w lv pc (v :: u :: st) :=
  fun H locs ls hP hD hS hl => lv_dup2_11 C.1 C.2.1 hd hv hu (K H locs ls hP hD hS hl)
theorem g_goto {off : Int} (tgt : Nat) (C : gC p s m args meth c cc nL own Ts D TY A) (hd : decode cc pc = .ok (.goto off, 3)) (ht : (pc : Int) + off = (tgt : Int)) (K : G p l e R s m args below meth c D A nL k j Q w lv tgt st) : G p l e R s m args below meth c D A nL k j Q w lv pc st :=
  fun H locs ls hP hD hS hl => lv_goto C.1 C.2.1 hd ht (K H locs ls hP hD hS hl)
theorem g_if_eq {x : Int32} {off : Int} (tgt : Nat) (C : gC p s m args meth c cc nL own Ts D TY A) (hd : decode cc pc = .ok (.ifCond .eq off, 3)) (ht : (pc : Int) + off = (tgt : Int)) (K1 : x = 0 → G p l e R s m args below meth c D A nL k j Q w lv tgt st) (K2 : ¬ x = 0 → G p l e R s m args below meth c D A nL k j Q w lv (pc + 3) st) : G p l e R s m args below meth c D A nL k j Q w lv pc (.int x :: st) :=
  fun H locs ls hP hD hS hl => lv_if_eq C.1 C.2.1 hd ht (fun q => K1 q H locs ls hP hD hS hl) (fun q => K2 q H locs ls hP hD hS hl)
theorem g_if_ne {x : Int32} {off : Int} (tgt : Nat) (C : gC p s m args meth c cc nL own Ts D TY A) (hd : decode cc pc = .ok (.ifCond .ne off, 3)) (ht : (pc : Int) + off = (tgt : Int)) (K1 : ¬ x = 0 → G p l e R s m args below meth c D A nL k j Q w lv tgt st) (K2 : x = 0 → G p l e R s m args below meth c D A nL k j Q w lv (pc + 3) st) : G p l e R s m args below meth c D A nL k j Q w lv pc (.int x :: st) :=
  fun H locs ls hP hD hS hl => lv_if_ne C.1 C.2.1 hd ht (fun q => K1 q H locs ls hP hD hS hl) (fun q => K2 q H locs ls hP hD hS hl)
theorem g_if_le {x : Int32} {off : Int} (tgt : Nat) (C : gC p s m args meth c cc nL own Ts D TY A) (hd : decode cc pc = .ok (.ifCond .le off, 3)) (ht : (pc : Int) + off = (tgt : Int)) (K1 : x ≤ 0 → G p l e R s m args below meth c D A nL k j Q w lv tgt st) (K2 : ¬ x ≤ 0 → G p l e R s m args below meth c D A nL k j Q w lv (pc + 3) st) : G p l e R s m args below meth c D A nL k j Q w lv pc (.int x :: st) :=
  fun H locs ls hP hD hS hl => lv_if_le C.1 C.2.1 hd ht (fun q => K1 q H locs ls hP hD hS hl) (fun q => K2 q H locs ls hP hD hS hl)
theorem g_if_lt {x : Int32} {off : Int} (tgt : Nat) (C : gC p s m args meth c cc nL own Ts D TY A) (hd : decode cc pc = .ok (.ifCond .lt off, 3)) (ht : (pc : Int) + off = (tgt : Int)) (K1 : x < 0 → G p l e R s m args below meth c D A nL k j Q w lv tgt st) (K2 : ¬ x < 0 → G p l e R s m args below meth c D A nL k j Q w lv (pc + 3) st) : G p l e R s m args below meth c D A nL k j Q w lv pc (.int x :: st) :=
  fun H locs ls hP hD hS hl => lv_if_lt C.1 C.2.1 hd ht (fun q => K1 q H locs ls hP hD hS hl) (fun q => K2 q H locs ls hP hD hS hl)
theorem g_if_ge {x : Int32} {off : Int} (tgt : Nat) (C : gC p s m args meth c cc nL own Ts D TY A) (hd : decode cc pc = .ok (.ifCond .ge off, 3)) (ht : (pc : Int) + off = (tgt : Int)) (K1 : 0 ≤ x → G p l e R s m args below meth c D A nL k j Q w lv tgt st) (K2 : ¬ 0 ≤ x → G p l e R s m args below meth c D A nL k j Q w lv (pc + 3) st) : G p l e R s m args below meth c D A nL k j Q w lv pc (.int x :: st) :=
  fun H locs ls hP hD hS hl => lv_if_ge C.1 C.2.1 hd ht (fun q => K1 q H locs ls hP hD hS hl) (fun q => K2 q H locs ls hP hD hS hl)
theorem g_icmp_eq {x y : Int32} {off : Int} (tgt : Nat) (C : gC p s m args meth c cc nL own Ts D TY A) (hd : decode cc pc = .ok (.if_icmp .eq off, 3)) (ht : (pc : Int) + off = (tgt : Int)) (K1 : x = y → G p l e R s m args below meth c D A nL k j Q w lv tgt st) (K2 : ¬ x = y → G p l e R s m args below meth c D A nL k j Q w lv (pc + 3) st) : G p l e R s m args below meth c D A nL k j Q w lv pc (.int y :: .int x :: st) :=
  fun H locs ls hP hD hS hl => lv_icmp_eq C.1 C.2.1 hd ht (fun q => K1 q H locs ls hP hD hS hl) (fun q => K2 q H locs ls hP hD hS hl)
theorem g_icmp_ne {x y : Int32} {off : Int} (tgt : Nat) (C : gC p s m args meth c cc nL own Ts D TY A) (hd : decode cc pc = .ok (.if_icmp .ne off, 3)) (ht : (pc : Int) + off = (tgt : Int)) (K1 : ¬ x = y → G p l e R s m args below meth c D A nL k j Q w lv tgt st) (K2 : x = y → G p l e R s m args below meth c D A nL k j Q w lv (pc + 3) st) : G p l e R s m args below meth c D A nL k j Q w lv pc (.int y :: .int x :: st) :=
  fun H locs ls hP hD hS hl => lv_icmp_ne C.1 C.2.1 hd ht (fun q => K1 q H locs ls hP hD hS hl) (fun q => K2 q H locs ls hP hD hS hl)
theorem g_icmp_lt {x y : Int32} {off : Int} (tgt : Nat) (C : gC p s m args meth c cc nL own Ts D TY A) (hd : decode cc pc = .ok (.if_icmp .lt off, 3)) (ht : (pc : Int) + off = (tgt : Int)) (K1 : x < y → G p l e R s m args below meth c D A nL k j Q w lv tgt st) (K2 : ¬ x < y → G p l e R s m args below meth c D A nL k j Q w lv (pc + 3) st) : G p l e R s m args below meth c D A nL k j Q w lv pc (.int y :: .int x :: st) :=
  fun H locs ls hP hD hS hl => lv_icmp_lt C.1 C.2.1 hd ht (fun q => K1 q H locs ls hP hD hS hl) (fun q => K2 q H locs ls hP hD hS hl)
theorem g_icmp_ge {x y : Int32} {off : Int} (tgt : Nat) (C : gC p s m args meth c cc nL own Ts D TY A) (hd : decode cc pc = .ok (.if_icmp .ge off, 3)) (ht : (pc : Int) + off = (tgt : Int)) (K1 : y ≤ x → G p l e R s m args below meth c D A nL k j Q w lv tgt st) (K2 : ¬ y ≤ x → G p l e R s m args below meth c D A nL k j Q w lv (pc + 3) st) : G p l e R s m args below meth c D A nL k j Q w lv pc (.int y :: .int x :: st) :=
  fun H locs ls hP hD hS hl => lv_icmp_ge C.1 C.2.1 hd ht (fun q => K1 q H locs ls hP hD hS hl) (fun q => K2 q H locs ls hP hD hS hl)
theorem g_icmp_gt {x y : Int32} {off : Int} (tgt : Nat) (C : gC p s m args meth c cc nL own Ts D TY A) (hd : decode cc pc = .ok (.if_icmp .gt off, 3)) (ht : (pc : Int) + off = (tgt : Int)) (K1 : y < x → G p l e R s m args below meth c D A nL k j Q w lv tgt st) (K2 : ¬ y < x → G p l e R s m args below meth c D A nL k j Q w lv (pc + 3) st) : G p l e R s m args below meth c D A nL k j Q w lv pc (.int y :: .int x :: st) :=
  fun H locs ls hP hD hS hl => lv_icmp_gt C.1 C.2.1 hd ht (fun q => K1 q H locs ls hP hD hS hl) (fun q => K2 q H locs ls hP hD hS hl)
theorem g_icmp_le {x y : Int32} {off : Int} (tgt : Nat) (C : gC p s m args meth c cc nL own Ts D TY A) (hd : decode cc pc = .ok (.if_icmp .le off, 3)) (ht : (pc : Int) + off = (tgt : Int)) (K1 : x ≤ y → G p l e R s m args below meth c D A nL k j Q w lv tgt st) (K2 : ¬ x ≤ y → G p l e R s m args below meth c D A nL k j Q w lv (pc + 3) st) : G p l e R s m args below meth c D A nL k j Q w lv pc (.int y :: .int x :: st) :=
  fun H locs ls hP hD hS hl => lv_icmp_le C.1 C.2.1 hd ht (fun q => K1 q H locs ls hP hD hS hl) (fun q => K2 q H locs ls hP hD hS hl)
theorem g_tableIn {dflt lo hi off : Int} {offs : Array Int} {len : Nat} {x : Int32} (tgt : Nat) (C : gC p s m args meth c cc nL own Ts D TY A) (hd : decode cc pc = .ok (.tableswitch dflt lo hi offs, len)) (h1 : ¬ x.toInt < lo) (h2 : ¬ hi < x.toInt) (ho : offs[(x.toInt - lo).toNat]? = some off) (ht : (pc : Int) + off = (tgt : Int)) (K : G p l e R s m args below meth c D A nL k j Q w lv tgt st) : G p l e R s m args below meth c D A nL k j Q w lv pc (.int x :: st) :=
  fun H locs ls hP hD hS hl => lv_tableIn C.1 C.2.1 hd h1 h2 ho ht (K H locs ls hP hD hS hl)
theorem g_tableOut {dflt lo hi : Int} {offs : Array Int} {len : Nat} {x : Int32} (tgt : Nat) (C : gC p s m args meth c cc nL own Ts D TY A) (hd : decode cc pc = .ok (.tableswitch dflt lo hi offs, len)) (h : x.toInt < lo ∨ hi < x.toInt) (ht : (pc : Int) + dflt = (tgt : Int)) (K : G p l e R s m args below meth c D A nL k j Q w lv tgt st) : G p l e R s m args below meth c D A nL k j Q w lv pc (.int x :: st) :=
  fun H locs ls hP hD hS hl => lv_tableOut C.1 C.2.1 hd h ht (K H locs ls hP hD hS hl)
-- the world
theorem g_get {C0 : String} {T : u_T} {N ix : Nat} {fs : List Value} {a : Nat} (q0 ci f : Nat) (v : Value) (C : gC p s m args meth c cc nL own Ts D TY A) (hin : ∀ w ∈ u_ws C0 T N, w ∈ Ts) (he : w[q0]? = some (a, .inr (ci, fs))) (hc : vwCl[ci]? = some (C0, T, N)) (hf : f < N) (hlink : Cond.fieldLink own ix (T f).1 (T f).2.1 (T f).2.2.1 ∈ Ts) (hv : fs[f]? = some v) (hd : decode cc pc = .ok (.getfield ix, 3)) (K : G p l e R s m args below meth c D A nL k j Q w lv (pc + 3) (v :: st)) : G p l e R s m args below meth c D A nL k j Q w lv pc (.ref a :: st) :=
  fun H locs ls hP hD hS hl => va_get (D := D) (ci := ci) (v := v) (C := C0) (T := T) (N := N) C.1 C.2.1 C.2.2.2.2.1 hin C.2.2.2.1 C.2.2.2.2.2.1 hP q0 he hc f hf (C.2.2.2.2.1 _ hlink) (fun _ h9 => h9) hv hd (K H locs ls hP hD hS hl)
theorem g_put {C0 : String} {T : u_T} {N ix : Nat} {fs : List Value} {a : Nat} (q0 ci f : Nat) (w' : va_W) {ty0 : Nat → FieldType} {x : Int32} (C : gC p s m args meth c cc nL own Ts D TY A) (hin : ∀ w ∈ u_ws C0 T N, w ∈ Ts) (hty : ∀ k, k < N → parseFieldDescriptor (T k).2.2.1 = some (ty0 k)) (hnm : ∀ a, a < N → ∀ b, b < N → a ≠ b → (T a).2.1 ≠ (T b).2.1) (he : w[q0]? = some (a, .inr (ci, fs))) (hc : vwCl[ci]? = some (C0, T, N)) (hf : f < N) (hlink : Cond.fieldLink own ix (T f).1 (T f).2.1 (T f).2.2.1 ∈ Ts) (hfin : (T f).2.2.2 = false) (hdsc : parseFieldDescriptor (T f).2.2.1 = some .int) (hl : f < fs.length) (hw' : w.set q0 (a, .inr (ci, fs.set f (.int x))) = w') (hd : decode cc pc = .ok (.putfield ix, 3)) (K : G p l e R s m args below meth c D A nL k j Q w' lv (pc + 3) st) : G p l e R s m args below meth c D A nL k j Q w lv pc (.int x :: .ref a :: st) :=
  fun H locs ls hP hD hS hv => va_put (D := D) (ci := ci) (v := .int x) (ty := .int) (C := C0) (T := T) (N := N) C.1 C.2.1 C.2.2.2.2.1 hin ty0 hty hnm C.2.2.2.1 C.2.2.2.2.2.1 hP hD hS q0 he hc f hf (C.2.2.2.2.1 _ hlink) (fun _ h9 => h9) hfin hdsc rfl rfl hl hd (fun H1 locs1 hP1 hD1 hS1 => K H1 locs1 ls (hw' ▸ hP1) (hw' ▸ hD1) hS1 hv)
theorem g_iald {cA : ClassId} {n a : Nat} {f : Nat → Int32} {i : Int32} (q0 t0 : Nat) (C : gC p s m args meth c cc nL own Ts D TY A) (ha : w[q0]? = some (a, .inl (cA, n, .inl f))) (ht : TY[t0]? = some (cA, .int)) (hin : vp_in i n) (hd : decode cc pc = .ok (.iaload, 1)) (K : G p l e R s m args below meth c D A nL k j Q w lv (pc + 1) (.int (f i.toNatClampNeg) :: st)) : G p l e R s m args below meth c D A nL k j Q w lv pc (.int i :: .ref a :: st) :=
  fun H locs ls hP hD hS hl => va_iald C.1 C.2.1 C.2.2.2.2.2.1 hP q0 t0 ha ht hin hd (K H locs ls hP hD hS hl)
theorem g_lald {cA : ClassId} {n a : Nat} {f : Nat → Int64} {i : Int32} (q0 t0 : Nat) (C : gC p s m args meth c cc nL own Ts D TY A) (ha : w[q0]? = some (a, .inl (cA, n, .inr (.inl f)))) (ht : TY[t0]? = some (cA, .long)) (hin : vp_in i n) (hd : decode cc pc = .ok (.laload, 1)) (K : G p l e R s m args below meth c D A nL k j Q w lv (pc + 1) (.long (f i.toNatClampNeg) :: st)) : G p l e R s m args below meth c D A nL k j Q w lv pc (.int i :: .ref a :: st) :=
  fun H locs ls hP hD hS hl => va_lald C.1 C.2.1 C.2.2.2.2.2.1 hP q0 t0 ha ht hin hd (K H locs ls hP hD hS hl)
theorem g_iast {cA : ClassId} {n a : Nat} {f : Nat → Int32} {i x : Int32} (q0 t0 : Nat) (w' : va_W) (C : gC p s m args meth c cc nL own Ts D TY A) (ha : w[q0]? = some (a, .inl (cA, n, .inl f))) (ht : TY[t0]? = some (cA, .int)) (hin : vp_in i n) (hw' : w.set q0 (a, .inl (cA, n, .inl (upd f i.toNatClampNeg x))) = w') (hd : decode cc pc = .ok (.iastore, 1)) (K : G p l e R s m args below meth c D A nL k j Q w' lv (pc + 1) st) : G p l e R s m args below meth c D A nL k j Q w lv pc (.int x :: .int i :: .ref a :: st) :=
  fun H locs ls hP hD hS hv => va_iast C.1 C.2.1 C.2.2.2.2.2.1 hP hD hS q0 t0 ha ht hin hd (fun H1 locs1 hP1 hD1 hS1 => K H1 locs1 ls (hw' ▸ hP1) (hw' ▸ hD1) hS1 hv)
theorem g_last {cA : ClassId} {n a : Nat} {f : Nat → Int64} {i : Int32} {x : Int64} (q0 t0 : Nat) (w' : va_W) (C : gC p s m args meth c cc nL own Ts D TY A) (ha : w[q0]? = some (a, .inl (cA, n, .inr (.inl f)))) (ht : TY[t0]? = some (cA, .long)) (hin : vp_in i n) (hw' : w.set q0 (a, .inl (cA, n, .inr (.inl (vp_updL f i.toNatClampNeg x)))) = w') (hd : decode cc pc = .ok (.lastore, 1)) (K : G p l e R s m args below meth c D A nL k j Q w' lv (pc + 1) st) : G p l e R s m args below meth c D A nL k j Q w lv pc (.long x :: .int i :: .ref a :: st) :=
  fun H locs ls hP hD hS hv => va_last C.1 C.2.1 C.2.2.2.2.2.1 hP hD hS q0 t0 ha ht hin hd (fun H1 locs1 hP1 hD1 hS1 => K H1 locs1 ls (hw' ▸ hP1) (hw' ▸ hD1) hS1 hv)
/-- a computed number gets a name -/
theorem g_nm {x : Int32} (K : ∀ y : Int32, y = x → G p l e R s m args below meth c D A nL k j Q w lv pc (.int y :: st)) : G p l e R s m args below meth c D A nL k j Q w lv pc (.int x :: st) := K x rfl
/-- .. or is another way of saying it -/
theorem g_is {x : Int32} (y : Int32) (h : x = y) (K : G p l e R s m args below meth c D A nL k j Q w lv pc (.int y :: st)) : G p l e R s m args below meth c D A nL k j Q w lv pc (.int x :: st) := by rw [h]; exact K
theorem g_w (w' : va_W) (h : w = w') (K : G p l e R s m args below meth c D A nL k j Q w' lv pc st) : G p l e R s m args below meth c D A nL k j Q w lv pc st := by rw [h]; exact K
/-- the locals picked out and put in order -/
theorem g_lv (ks : List Nat) (lv' : List (Nat × Value)) (h : lv_pick lv ks = lv') (K : G p l e R s m args below meth c D A nL k j Q w lv' pc st) : G p l e R s m args below meth c D A nL k j Q w lv pc st :=
  fun H locs ls hP hD hS hl => K H locs ls hP hD hS (lv_sub hl ks h)
theorem g_widen {k' j' : Nat} (h1 : k ≤ k') (h2 : j ≤ j') (K : G p l e R s m args below meth c D A nL k' j' Q w lv pc st) : G p l e R s m args below meth c D A nL k j Q w lv pc st :=
  fun H locs ls hP hD hS hl => W.widen h1 h2 (K H locs ls hP hD hS hl)
end GJ
