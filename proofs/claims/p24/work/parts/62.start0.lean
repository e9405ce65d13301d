/-! Rows of the law's start. -/
section GS0
variable {p : Program} {l : Launch} {e : Env} {R : Room} {s : State} {m : MethodId} {args : Array Value} {below : List Frame} {meth : Method} {c : Code}
variable {cc : ByteArray} {nL : Nat} {own : String} {Ts : List Cond} {D : va_G} {TY : List (ClassId × FieldType)} {A : Nat → Prop}
variable {k j : Nat} {Q : State → Prop} {w : va_W} {lv : List (Nat × Value)} {pc : Nat} {st rest : List Value} {cJ : ClassId}
theorem g_new {ix : Nat} {C0 : String} {T : u_T} {N : Nat} (ci : Nat) (fs : List Value) {ty0 : Nat → FieldType} (C : gC p s m args meth c cc nL own Ts D TY A) (hin : ∀ w ∈ u_ws C0 T N, w ∈ Ts) (hty : ∀ k, k < N → parseFieldDescriptor (T k).2.2.1 = some (ty0 k)) (hcl : Cond.classLink own ix C0 ∈ Ts) (hinst : Cond.instantiable C0 N ∈ Ts) (hini : Cond.initialized C0 ∈ Ts) (hc : vwCl[ci]? = some (C0, T, N)) (hfs : ∀ j, j < N → defaultValue (ty0 j) = vp_V fs j) (hcs : k + 1 ≤ R.cells) (hss : j + N ≤ R.slots) (hd : decode cc pc = .ok (.new ix, 3))
    (K : ∀ q : Nat, G p l e R s m args below meth c D A nL (k + 1) (j + N) Q (w ++ [(q, .inr (ci, fs))]) lv (pc + 3) (.ref q :: st)) : G p l e R s m args below meth c D A nL k j Q w lv pc st :=
  fun H locs ls hP hD hS hl => va_new (ci := ci) (fs := fs) (C := C0) (T := T) (N := N) C.1 C.2.1 C.2.2.2.2.1 hin ty0 hty C.2.2.2.1 (C.2.2.2.2.1 _ hcl) (C.2.2.2.2.1 _ hinst) (C.2.2.2.2.1 _ hini) C.2.2.2.2.2.1 hP hD hS C.2.2.2.2.2.2.1 hc hfs hcs hss hd (fun q H1 hP1 hD1 hS1 => K q H1 locs ls hP1 hD1 hS1 hl)
theorem g_perm (is : List Nat) (w' : va_W) (hn : va_nd is = true) (hs : is.map (fun i => w[i]?) = w'.map some) (hs2 : is.filterMap (fun i => w[i]?) = w') (K : G p l e R s m args below meth c D A nL k j Q w' lv pc st) : G p l e R s m args below meth c D A nL k j Q w lv pc st :=
  fun H locs ls hP hD hS hl => K H locs ls (hP.sub is hs2) (hD.sub is hn hs) hS hl
theorem g_callI {y : MethodName} {bytes : ByteArray} {maxL fr lo mc ms ix b : Nat} {ws ws' : List Cond} {wl : va_W} {ob : va_E} {wf : (Nat → Nat) → va_W} (hM : MI l y ws fr lo D TY b [(b, ob)] wf mc ms) (C : gC p s m args meth c cc nL own Ts D TY A) (hG : GoodIn Ts ws) (hw : ws = Cond.code y bytes maxL none :: ws') (hini : Cond.initialized y.cls ∈ Ts) (hlk : Cond.methodLink own ix y ∈ Ts) (hi : Cond.instanceMethod y ∈ Ts) (hy1 : y.name = "<init>")
    (hd : y.cls ≠ "java/lang/invoke/MethodHandle" ∧ y.cls ≠ "java/lang/invoke/VarHandle" ∧ (parseMethodDescriptor y.desc).map (fun d => d.parameters.length) = some 0) (hR : fr + 1 ≤ R.frames ∧ 8 + (maxL + 11) + lo ≤ R.locals) (hst : st = .ref b :: rest) (hW : (rest.map fun v => v.category).sum ≤ 8) (hf : k + mc ≤ R.cells ∧ j + ms ≤ R.slots) (hdg : decode cc pc = .ok (.invokespecial ix, 3))
    (KK : ∀ h : Nat → Nat, h 0 = b → G p l e R s m args below meth c D A nL (k + mc) (j + ms) Q (wl ++ wf h) lv (pc + 3) rest) : G p l e R s m args below meth c D A nL k j Q (wl ++ [(b, ob)]) lv pc st := by
  subst hst
  intro H locs ls hP hD hS hl
  have hK : wX (fun w => wl ++ w) wl [] := wX_suf wl
  have hK2 : wX (fun w => w ++ [(b, ob)]) [] [(b, ob)] := wX_pre _
  have hA := C.2.2.2.2.2.2.1
  have hr : va_Run p l e R s m args below meth c H locs k j mc ms (F0 m pc ls (.ref b :: rest)) rest (cQ D [(b, ob)] wf b H.size (Value.ref b :: ([] : List Value)).toArray) (va_A [(b, ob)] H.size) := va_runI (As := []) (rest := rest) ⟨C.1, C.2.1, C.2.2.1, C.2.2.2.1, C.2.2.2.2.1⟩ (hM H.size) (cwI 0 C.2.2.2.2.1 hG hw rfl rfl (C.2.2.2.2.1 _ hini) (C.2.2.2.2.1 _ hlk) (C.2.2.2.2.1 _ hi) hy1 hd hR) ⟨mP_blind, mP_of hK C hP hD hS⟩ rfl rfl hl.1 rfl (lv_room hW) hdg hf
  intro T hT X
  obtain ⟨v, st₀, t, T', L, h0, X', hL, e1, e2, ⟨⟨hv, h, hh, hP1, hD1⟩, hz, hk⟩, stp⟩ := hr T hT X
  cases hv
  rw [h0] at hz hk
  rw [← e1] at hz hk hP1
  have hF : ∀ q, va_A [(b, ob)] H.size q → A q := wX_free hK hD hS hA
  have hwl : va_D A wl := wX_D hK2 hD
  have hPw : va_P D vwCl wl H := wX_P hK2 hP
  have hap : ∀ (i : Nat) (q : Nat × va_E), wl[i]? = some q → ¬ va_A [(b, ob)] H.size q.1 := by
    intro i q hi
    have hlt := (hPw i q hi).lt
    rintro (⟨n, e9, hn⟩ | h9)
    · have hn0 : n = 0 := by have := (List.getElem?_eq_some_iff.mp hn).1; simp at this; exact this
      subst hn0
      cases hn
      have hil := (List.getElem?_eq_some_iff.mp hi).1
      have := hD.1 i wl.length q (q.1, ob) (by rw [List.getElem?_append_left hil]; exact hi) (by simp) rfl
      omega
    · exact absurd hlt (Nat.not_lt.mpr h9)
  refine (KK h hh T'.heap (locs ++ L) ls ?_ ?_ ⟨Nat.le_trans hS.1 hz, fun q h1 h2 => by rw [hk q (Nat.lt_of_lt_of_le h1 hS.1) (fun z => h2 (hF q z))]; exact hS.2.1 q h1 h2, fun q hq => by
      rcases List.mem_append.mp hq with h | h
      · exact hS.2.2 q h
      · exact hF _ (hL q h)⟩ hl T' rfl X').imp fun t2 a => ⟨stp t2 a.1, a.2⟩
  · exact (hPw.kept fun i q hi => hk q.1 (hPw i q hi).lt (hap i q hi)).app hP1
  · exact va_D.app hwl (hD1.weaken fun i q _ h => hF q.1 h) (fun i j2 x y hx hy hxy => hap i x hx (by rw [hxy]; exact hD1.2 j2 y hy))
end GS0
theorem arr_of {ty : FieldType} {args : Array Value} {s : State} (h : (Cond.arrayClass ty).before args s = true) : ∃ cA : ClassId, ArrOfT s cA ty ∧ s.vm.findClass ("[" ++ ty.toString) = some cA := by
  obtain ⟨cA, kA, comp, h1, h2, h3⟩ := Cond.arrayClass_spec h
  exact ⟨cA, fun n z => ⟨fun k h => (by cases h), kA, h2, comp, h3⟩, h1⟩
