/-! Calls, ends, throws and entries of the walk. -/
-- worlds side by side
theorem wp_mem {D : va_G} {cl : List vw_C} {w : va_W} {H : Heap} : va_P D cl w H ↔ ∀ q ∈ w, va_at D cl q H := by
  constructor
  · intro h q hq
    obtain ⟨i, hi⟩ := List.getElem?_of_mem hq
    exact h i q hi
  · intro h i q hi
    exact h q (List.mem_of_getElem? hi)
theorem wd_same {A : Nat → Prop} {w w' : va_W} (hm : w'.map Prod.fst = w.map Prod.fst) (h : va_D A w) : va_D A w' := by
  have key : ∀ (i : Nat) (q : Nat × va_E), w'[i]? = some q → ∃ q0, w[i]? = some q0 ∧ q0.1 = q.1 := by
    intro i q hi
    have h1 : (w'.map Prod.fst)[i]? = some q.1 := by rw [List.getElem?_map, hi]; rfl
    rw [hm, List.getElem?_map] at h1
    cases h2 : w[i]? with
    | none => rw [h2] at h1; cases h1
    | some q0 => rw [h2] at h1; exact ⟨q0, rfl, Option.some.inj h1⟩
  refine ⟨fun i j p q hi hj hpq => ?_, fun i q hi => ?_⟩
  · obtain ⟨p0, a1, a2⟩ := key i p hi
    obtain ⟨q0, b1, b2⟩ := key j q hj
    exact h.1 i j p0 q0 a1 b1 (by rw [a2, b2, hpq])
  · obtain ⟨q0, b1, b2⟩ := key i q hi
    rw [← b2]; exact h.2 i q0 b1
/-- the callee's world wc lies in the caller's, between wl and wr -/
def wX (K : va_W → va_W) (wl wr : va_W) : Prop := ∀ w, K w = wl ++ w ++ wr
theorem wX_id : wX (fun w => w) [] [] := fun w => by simp
theorem wX_pre (wr : va_W) : wX (fun w => w ++ wr) [] wr := fun w => by simp
theorem wX_suf (wl : va_W) : wX (fun w => wl ++ w) wl [] := fun w => by simp
theorem wX_P {K : va_W → va_W} {wl wr wc : va_W} (hK : wX K wl wr) {D : va_G} {cl : List vw_C} {H : Heap} (h : va_P D cl (K wc) H) : va_P D cl wc H :=
  wp_mem.mpr fun q hq => wp_mem.mp h q (by rw [hK wc]; exact List.mem_append_left _ (List.mem_append_right _ hq))
theorem wX_D {K : va_W → va_W} {wl wr wc : va_W} (hK : wX K wl wr) {A : Nat → Prop} (h : va_D A (K wc)) : va_D A wc := by
  have hg : ∀ (i : Nat) (q : Nat × va_E), wc[i]? = some q → (K wc)[wl.length + i]? = some q := by
    intro i q hi
    have hl := (List.getElem?_eq_some_iff.mp hi).1
    rw [hK wc, List.append_assoc, List.getElem?_append_right (by omega), Nat.add_sub_cancel_left, List.getElem?_append_left hl]
    exact hi
  exact ⟨fun i j p q hi hj hpq => by have := h.1 _ _ p q (hg i p hi) (hg j q hj) hpq; omega, fun i q hi => h.2 _ q (hg i q hi)⟩
theorem wX_map {K : va_W → va_W} {wl wr wc w1 : va_W} (hK : wX K wl wr) (hm : w1.map Prod.fst = wc.map Prod.fst) : (K w1).map Prod.fst = (K wc).map Prod.fst := by
  rw [hK, hK]; simp [hm]
theorem wX_join {K : va_W → va_W} {wl wr wc w1 : va_W} (hK : wX K wl wr) {A : Nat → Prop} {D : va_G} {cl : List vw_C} {H H1 : Heap} (hP : va_P D cl (K wc) H) (hD : va_D A (K wc))
    (hk : ∀ q : Nat, q < H.size → ¬ va_A wc H.size q → H1[q]? = H[q]?) (hP1 : va_P D cl w1 H1) : va_P D cl (K w1) H1 := by
  have hapart : ∀ (q : Nat × va_E), (q ∈ wl ∨ q ∈ wr) → va_at D cl q H → H1[q.1]? = H[q.1]? := by
    intro q hq hat
    refine hk q.1 hat.lt ?_
    rintro (⟨i, e, hi⟩ | h)
    · have hl := (List.getElem?_eq_some_iff.mp hi).1
      have h2 : (K wc)[wl.length + i]? = some (q.1, e) := by
        rw [hK wc, List.append_assoc, List.getElem?_append_right (by omega), Nat.add_sub_cancel_left, List.getElem?_append_left hl]; exact hi
      rcases hq with hq | hq
      · obtain ⟨n, hn⟩ := List.getElem?_of_mem hq
        have hnl := (List.getElem?_eq_some_iff.mp hn).1
        have h3 : (K wc)[n]? = some q := by rw [hK wc, List.append_assoc, List.getElem?_append_left hnl]; exact hn
        have := hD.1 _ _ _ _ h2 h3 rfl
        omega
      · obtain ⟨n, hn⟩ := List.getElem?_of_mem hq
        have h3 : (K wc)[(wl ++ wc).length + n]? = some q := by rw [hK wc, List.getElem?_append_right (by omega), Nat.add_sub_cancel_left]; exact hn
        have := hD.1 _ _ _ _ h2 h3 rfl
        simp at this
        omega
    · exact absurd hat.lt (Nat.not_lt.mpr h)
  refine wp_mem.mpr fun q hq => ?_
  rw [hK w1] at hq
  have hmem : ∀ q, q ∈ wl ∨ q ∈ wr → va_at D cl q H := fun q h => wp_mem.mp hP q (by rw [hK wc]; rcases h with h | h <;> simp [h])
  rcases List.mem_append.mp hq with h | h
  · rcases List.mem_append.mp h with h | h
    · exact (hmem q (Or.inl h)).kept (hapart q (Or.inl h) (hmem q (Or.inl h)))
    · exact wp_mem.mp hP1 q h
  · exact (hmem q (Or.inr h)).kept (hapart q (Or.inr h) (hmem q (Or.inr h)))
theorem wX_free {K : va_W → va_W} {wl wr wc : va_W} (hK : wX K wl wr) {A : Nat → Prop} {H0 H : Heap} {locs : List Loc} (hD : va_D A (K wc)) (hS : va_S A H0 H locs) (hA : ∀ q, H0.size ≤ q → A q) : ∀ q, va_A wc H.size q → A q := by
  rintro q (⟨i, e, hi⟩ | h)
  · exact (wX_D hK hD).2 i (q, e) hi
  · exact hA q (Nat.le_trans hS.1 h)
section GK
variable {p : Program} {l : Launch} {e : Env} {R : Room} {s : State} {m : MethodId} {args : Array Value} {below : List Frame} {meth : Method} {c : Code}
variable {cc : ByteArray} {nL : Nat} {own : String} {Ts : List Cond} {D : va_G} {TY : List (ClassId × FieldType)} {A : Nat → Prop}
variable {k j : Nat} {Q : State → Prop} {w : va_W} {lv : List (Nat × Value)} {pc : Nat} {st rest : List Value}
variable {y : MethodName} {bytes : ByteArray} {maxL fr lo n ix na : Nat} {ret : Option FieldType} {ws ws' : List Cond} {av As : List Value} {wc w1 wl wr : va_W} {K : va_W → va_W} {ex : Option String} {rv : Option Value} {E : String}
/-- behind a call that returned -/
theorem g_ret_of {H : Heap} {locs : List Loc} {ls : Array Slot} {a : Array Value} (hK : wX K wl wr) (hm : w1.map Prod.fst = wc.map Prod.fst) (hA : ∀ q : Nat, s.heap.size ≤ q → A q) (hP : va_P D vwCl (K wc) H) (hD : va_D A (K wc)) (hS : va_S A s.heap H locs) (hl : lv_has ls nL lv)
    (hr : vx_Run p l e R s m args below meth c H locs k j n (6 * n) (F0 m pc ls st) rest (mQ D wc w1 none rv H.size a) (mX D wc none H.size) (va_A wc H.size))
    (KK : G p l e R s m args below meth c D A nL (k + n) (j + 6 * n) Q (K w1) lv (pc + 3) (rv.toList ++ rest)) : W p l e R s m args below meth c H locs k j Q (F0 m pc ls st) := by
  intro T hT X
  rcases hr T hT X with ⟨v, st₀, t, T', L, h0, X', hL, e1, e2, ⟨⟨hv, -, hP1⟩, hz, hk⟩, stp⟩ | ⟨q, st₀, t, T', L, E, ce, h0, X', hL, e1, e2, ⟨⟨hE, -⟩, -⟩, -⟩
  · cases hv
    rw [h0] at hz hk
    rw [← e1] at hz hk hP1
    have hF := wX_free hK hD hS hA
    obtain ⟨t2, a1, b1⟩ := KK T'.heap (locs ++ L) ls (wX_join hK hP hD hk hP1) (wd_same (wX_map hK hm) hD)
      ⟨Nat.le_trans hS.1 hz, fun q h1 h2 => by rw [hk q (Nat.lt_of_lt_of_le h1 hS.1) (fun z => h2 (hF q z))]; exact hS.2.1 q h1 h2, fun q hq => by
        rcases List.mem_append.mp hq with h | h
        · exact hS.2.2 q h
        · exact hF _ (hL q h)⟩ hl T' rfl X'
    exact ⟨t2, stp t2 a1, b1⟩
  · cases hE
/-- what a body owes -/
def gQ (below : List Frame) (D : va_G) (w w' : va_W) (ex : Option String) (rv : Option Value) (n : Nat) (args : Array Value) (s : State) : State → Prop := vx_MQ below (mQ D w w' ex rv s.heap.size) (mX D w ex s.heap.size) args s n (6 * n) (va_A w s.heap.size)
/-- behind a call that threw: it goes on to the caller -/
theorem g_out_of {H : Heap} {locs : List Loc} {ls : Array Slot} {a : Array Value} {w' : va_W} {n0 : Nat} {rv0 : Option Value} (hout : ∀ x ∈ c.exceptionTable.toList, False) (hlocks : meth.locks = false) (hA : ∀ q : Nat, s.heap.size ≤ q → va_A wc s.heap.size q) (hK : wX K wl wr) (hw : K wc = w) (hP : va_P D vwCl (K wc) H) (hD : va_D (va_A w s.heap.size) (K wc)) (hS : va_S (va_A w s.heap.size) s.heap H locs)
    (hr : vx_Run p l e R s m args below meth c H locs k j n (6 * n) (F0 m pc ls st) rest (mQ D wc w1 (some E) rv H.size a) (mX D wc (some E) H.size) (va_A wc H.size)) (hn : k + n ≤ n0) (hj : j + 6 * n ≤ 6 * n0)
    : W p l e R s m args below meth c H locs k j (gQ below D w w' (some E) rv0 n0 args s) (F0 m pc ls st) := by
  have hA' : ∀ q : Nat, s.heap.size ≤ q → va_A w s.heap.size q := fun q h => Or.inr h
  intro T hT X
  rcases hr T hT X with ⟨v, st₀, t, T', L, h0, X', hL, e1, e2, ⟨⟨hv, hE, hP1⟩, hz, hk⟩, stp⟩ | ⟨q, st₀, t, T', L, E', ce, h0, X', hL, e1, e2, ⟨⟨hE, hP1⟩, hz, hk⟩, hce, hcv, hcl, stp⟩
  · cases hE
  · cases hE
    rw [h0] at hz hk
    rw [← e1] at hz hk hP1 hce
    have hF := wX_free hK hD hS hA'
    have hPn := wX_join hK hP hD hk hP1
    have hSn : va_S (va_A w s.heap.size) s.heap T'.heap (locs ++ L) := ⟨Nat.le_trans hS.1 hz, fun q h1 h2 => by rw [hk q (Nat.lt_of_lt_of_le h1 hS.1) (fun z => h2 (hF q z))]; exact hS.2.1 q h1 h2, fun q hq => by
        rcases List.mem_append.mp hq with h | h
        · exact hS.2.2 q h
        · exact hF _ (hL q h)⟩
    rw [hw] at hPn
    obtain ⟨t2, a1, b1⟩ := vx_out (Qc := mQ D w w' (some E) rv0 s.heap.size) (XC := mX D w (some E) s.heap.size) (free := va_A w s.heap.size) (mc := n0) (ms := 6 * n0) (pc := pc) (ls := ls) (rest := rest) (fun x hx => (hout x hx).elim) hlocks hce hcv hcl (fun t ht _ => ⟨⟨rfl, by rw [ht]; exact hPn⟩, by rw [va_F, ht]; exact ⟨hSn.1, hSn.2.1⟩⟩) hSn.2.2 hn hj T' rfl X'
    exact ⟨t2, stp.trans a1, b1⟩
/-- the callee's start -/
theorem mP_of {H : Heap} {locs : List Loc} (hK : wX K wl wr) (C : gC p s m args meth c cc nL own Ts D TY A) (hP : va_P D vwCl (K wc) H) (hD : va_D A (K wc)) (hS : va_S A s.heap H locs) : ∀ U : State, U.heap = H → s.WarmedH U.vm → mP D TY wc av H.size av.toArray U := by
  intro U hU hW
  refine ⟨rfl, by rw [hU], by rw [hU]; exact wX_P hK hP, va_K.moved hW.alike C.2.2.2.2.2.1, (wX_D hK hD).weaken (fun _ _ _ _ => trivial), ?_⟩
  exact XE.to C.2.2.2.2.2.2.2.2 hS hU hW (fun q h => wX_free hK hD hS C.2.2.2.2.2.2.1 q h)
/-- a static call that returns -/
theorem g_callS (K : va_W → va_W) (hK : wX K wl wr) (hM : MC l y ws fr lo D TY av wc w1 none rv n) (C : gC p s m args meth c cc nL own Ts D TY A) (hG : GoodIn Ts (va_wsS own ix y ws)) (hw : ws = Cond.code y bytes maxL ret :: ws')
    (hd : y.cls ≠ "java/lang/invoke/MethodHandle" ∧ y.cls ≠ "java/lang/invoke/VarHandle" ∧ (parseMethodDescriptor y.desc).map (fun d => d.parameters.length) = some na) (hna : av.length = na) (hR : fr + 1 ≤ R.frames ∧ 8 + (maxL + 11) + lo ≤ R.locals)
    (hst : st = av.reverse ++ rest) (hW : (rest.map fun v => v.category).sum ≤ 8) (hf : k + n ≤ R.cells ∧ j + 6 * n ≤ R.slots) (hm : w1.map Prod.fst = wc.map Prod.fst) (hdg : decode cc pc = .ok (.invokestatic ix, 3))
    (KK : G p l e R s m args below meth c D A nL (k + n) (j + 6 * n) Q (K w1) lv (pc + 3) (rv.toList ++ rest)) : G p l e R s m args below meth c D A nL k j Q (K wc) lv pc st := by
  subst hst; subst hna
  intro H locs ls hP hD hS hl
  refine g_ret_of hK hm C.2.2.2.2.2.2.1 hP hD hS hl (vx_runS (As := av) (rest := rest) ⟨C.1, C.2.1, C.2.2.1, C.2.2.2.1, C.2.2.2.2.1⟩ (hM H.size) (va_cwS av.length C.2.2.2.2.1 hG hw rfl rfl hd hR) ⟨mP_blind, mP_of hK C hP hD hS⟩ rfl rfl hl.1 rfl (lv_room hW) hdg hf) KK
/-- a call by an object that returns -/
theorem g_callV {C0 : String} {fs : List Value} {T : u_T} {N b ci : Nat} (K : va_W → va_W) (hK : wX K wl wr) (hM : MC l y ws fr lo D TY (.ref b :: As) wc w1 none rv n) (C : gC p s m args meth c cc nL own Ts D TY A) (hG : GoodIn Ts (wsV own ix C0 y ws)) (hw : ws = Cond.code y bytes maxL ret :: ws')
    (hd : y.cls = C0 ∧ y.cls ≠ "java/lang/invoke/MethodHandle" ∧ y.cls ≠ "java/lang/invoke/VarHandle" ∧ (parseMethodDescriptor y.desc).map (fun d => d.parameters.length) = some na) (hna : As.length = na) (hR : fr + 1 ≤ R.frames ∧ 8 + (maxL + 11) + lo ≤ R.locals)
    (he : wc[0]? = some (b, .inr (ci, fs))) (hc : vwCl[ci]? = some (C0, T, N))
    (hst : st = As.reverse ++ .ref b :: rest) (hW : (rest.map fun v => v.category).sum ≤ 8) (hf : k + n ≤ R.cells ∧ j + 6 * n ≤ R.slots) (hm : w1.map Prod.fst = wc.map Prod.fst) (hdg : decode cc pc = .ok (.invokevirtual ix, 3))
    (KK : G p l e R s m args below meth c D A nL (k + n) (j + 6 * n) Q (K w1) lv (pc + 3) (rv.toList ++ rest)) : G p l e R s m args below meth c D A nL k j Q (K wc) lv pc st := by
  subst hst; subst hna
  intro H locs ls hP hD hS hl
  refine g_ret_of hK hm C.2.2.2.2.2.2.1 hP hD hS hl (vx_runV (As := As) (rest := rest) ⟨C.1, C.2.1, C.2.2.1, C.2.2.2.1, C.2.2.2.2.1⟩ (hM H.size) (cwV As.length C.2.2.2.2.1 hG hw rfl rfl hd hR) ⟨mP_blind, va_recv C.2.2.2.2.2.1 (wX_P hK hP) hc he, mP_of hK C hP hD hS⟩ rfl rfl hl.1 rfl (lv_room hW) hdg hf) KK
/-- a static call that throws: so does this method -/
theorem g_callSX {w' : va_W} {n0 : Nat} {rv0 : Option Value} (hM : MC l y ws fr lo D TY av w w1 (some E) rv n) (C : gC p s m args meth c cc nL own Ts D TY (va_A w s.heap.size)) (hG : GoodIn Ts (va_wsS own ix y ws)) (hw : ws = Cond.code y bytes maxL ret :: ws')
    (hd : y.cls ≠ "java/lang/invoke/MethodHandle" ∧ y.cls ≠ "java/lang/invoke/VarHandle" ∧ (parseMethodDescriptor y.desc).map (fun d => d.parameters.length) = some na) (hna : av.length = na) (hR : fr + 1 ≤ R.frames ∧ 8 + (maxL + 11) + lo ≤ R.locals)
    (hst : st = av.reverse ++ rest) (hW : (rest.map fun v => v.category).sum ≤ 8) (hf : k + n ≤ R.cells ∧ j + 6 * n ≤ R.slots) (hout : ∀ x ∈ c.exceptionTable.toList, False) (hn : k + n ≤ n0) (hj : j + 6 * n ≤ 6 * n0) (hex : ex = some E) (hdg : decode cc pc = .ok (.invokestatic ix, 3))
    : G p l e R s m args below meth c D (va_A w s.heap.size) nL k j (gQ below D w w' ex rv0 n0 args s) w lv pc st := by
  subst hst; subst hna
  subst hex
  intro H locs ls hP hD hS hl
  exact g_out_of hout C.2.2.2.2.2.2.2.1 (fun q h => Or.inr h) wX_id rfl hP hD hS (vx_runS (As := av) (rest := rest) ⟨C.1, C.2.1, C.2.2.1, C.2.2.2.1, C.2.2.2.2.1⟩ (hM H.size) (va_cwS av.length C.2.2.2.2.1 hG hw rfl rfl hd hR) ⟨mP_blind, mP_of wX_id C hP hD hS⟩ rfl rfl hl.1 rfl (lv_room hW) hdg hf) hn hj
/-- a call by an object that throws: so does this method -/
theorem g_callVX {C0 : String} {fs : List Value} {T : u_T} {N b ci : Nat} {w' : va_W} {n0 : Nat} {rv0 : Option Value} (hM : MC l y ws fr lo D TY (.ref b :: As) w w1 (some E) rv n) (C : gC p s m args meth c cc nL own Ts D TY (va_A w s.heap.size)) (hG : GoodIn Ts (wsV own ix C0 y ws)) (hw : ws = Cond.code y bytes maxL ret :: ws')
    (hd : y.cls = C0 ∧ y.cls ≠ "java/lang/invoke/MethodHandle" ∧ y.cls ≠ "java/lang/invoke/VarHandle" ∧ (parseMethodDescriptor y.desc).map (fun d => d.parameters.length) = some na) (hna : As.length = na) (hR : fr + 1 ≤ R.frames ∧ 8 + (maxL + 11) + lo ≤ R.locals)
    (he : w[0]? = some (b, .inr (ci, fs))) (hc : vwCl[ci]? = some (C0, T, N))
    (hst : st = As.reverse ++ .ref b :: rest) (hW : (rest.map fun v => v.category).sum ≤ 8) (hf : k + n ≤ R.cells ∧ j + 6 * n ≤ R.slots) (hout : ∀ x ∈ c.exceptionTable.toList, False) (hn : k + n ≤ n0) (hj : j + 6 * n ≤ 6 * n0) (hex : ex = some E) (hdg : decode cc pc = .ok (.invokevirtual ix, 3))
    : G p l e R s m args below meth c D (va_A w s.heap.size) nL k j (gQ below D w w' ex rv0 n0 args s) w lv pc st := by
  subst hst; subst hna
  subst hex
  intro H locs ls hP hD hS hl
  exact g_out_of hout C.2.2.2.2.2.2.2.1 (fun q h => Or.inr h) wX_id rfl hP hD hS (vx_runV (As := As) (rest := rest) ⟨C.1, C.2.1, C.2.2.1, C.2.2.2.1, C.2.2.2.2.1⟩ (hM H.size) (cwV As.length C.2.2.2.2.1 hG hw rfl rfl hd hR) ⟨mP_blind, va_recv C.2.2.2.2.2.1 (wX_P wX_id hP) hc he, mP_of wX_id C hP hD hS⟩ rfl rfl hl.1 rfl (lv_room hW) hdg hf) hn hj
-- ends
theorem g_iret {v : Int32} {ty : FieldType} {w0 w' : va_W} {n : Nat} (C : gC p s m args meth c cc nL own Ts D TY (va_A w0 s.heap.size)) (hr : meth.sig.returnType = some ty) (hn : narrow ty (.int v) = .int v) (hd : decode cc pc = .ok (.ireturn, 1)) (hk : k ≤ n) (hj : j ≤ 6 * n) (hex : ex = none) (hrv : some (.int v) = rv) (hw : w = w') : G p l e R s m args below meth c D (va_A w0 s.heap.size) nL k j (gQ below D w0 w' ex rv n args s) w lv pc [.int v] := by
  intro H locs ls hP hD hS hl
  subst hw; subst hex; subst hrv
  refine vx_ret (W.widen hk hj (W.zret (v := v) C.1 C.2.1 hr hn (fun t ht hW => ⟨⟨rfl, rfl, by rw [ht]; exact hP⟩, hS.F ht⟩) hS.2.2 hd C.2.2.2.2.2.2.2.1))
theorem g_vret {w0 w' : va_W} {n : Nat} (C : gC p s m args meth c cc nL own Ts D TY (va_A w0 s.heap.size)) (hr : meth.sig.returnType = none) (hd : decode cc pc = .ok (.return_, 1)) (hk : k ≤ n) (hj : j ≤ 6 * n) (hex : ex = none) (hrv : none = rv) (hw : w = w') : G p l e R s m args below meth c D (va_A w0 s.heap.size) nL k j (gQ below D w0 w' ex rv n args s) w lv pc [] := by
  intro H locs ls hP hD hS hl
  subst hw; subst hex; subst hrv
  refine vx_ret (W.widen hk hj (W.vret C.1 C.2.1 hr (fun t ht hW => ⟨⟨rfl, rfl, by rw [ht]; exact hP⟩, hS.F ht⟩) hS.2.2 hd C.2.2.2.2.2.2.2.1))
/-- throw new E("text") -/
theorem g_throw {cls text : String} {ik is ic : Nat} {w' : va_W} {n : Nat} (C : gC p s m args meth c cc nL own Ts D TY (va_A w s.heap.size)) (hl : l.stackTraces = false) (how : own = RX0) (hcls : Bundle.fit cls = true) (hk : Cond.classLink own ik cls ∈ Ts) (hini : Cond.initialized cls ∈ Ts) (hgw : ∀ w ∈ (vx_atS own ic cls xeN).filter goodWord, w ∈ Ts) (hbw : ∀ w ∈ (vx_atS own ic cls xeN).filter (fun w => !goodWord w), w ∈ xeB)
    (hgood : ∀ w ∈ Cond.classLink own ik cls :: Cond.initialized cls :: vx_atS own ic cls xeN, vx_ot w = true) (hs : (is, text) ∈ xeStr) (hout : ∀ x ∈ c.exceptionTable.toList, False)
    (d0 : decode cc pc = .ok (.new ik, 3)) (d3 : decode cc (pc + 3) = .ok (.dup, 1)) (d4 : decode cc (pc + 4) = .ok (.ldc is, 2)) (d6 : decode cc (pc + 6) = .ok (.invokespecial ic, 3)) (d9 : decode cc (pc + 9) = .ok (.athrow, 1))
    (hRf : 5 < R.frames) (hRl : (rest.map fun v => v.category).sum + 82 ≤ R.locals) (hRc : k + 1 ≤ R.cells) (hRs : j + 6 ≤ R.slots) (hn : k + 1 ≤ n) (hj : j + 6 ≤ 6 * n) (hex : ex = some cls)
    : G p l e R s m args below meth c D (va_A w s.heap.size) nL k j (gQ below D w w' ex rv n args s) w lv pc rest := by
  intro H locs ls hP hD hS hlv
  subst hex
  have X := C.2.2.2.2.2.2.2.2
  obtain ⟨sa, hsa⟩ := X.2.2.1 _ hs
  have hB : ∀ w ∈ xeB, w.before args s = true := fun w hw => va_Nw.use (xeB_tab w hw) (X.2.2.2.1 w hw)
  refine vx_throwS (text := text) (names := xeN) (sa := sa) (A := va_A w s.heap.size) C.1 C.2.1 hl C.2.2.2.1 hcls (by decide +kernel) (C.2.2.2.2.1 _ hk) (C.2.2.2.2.1 _ hini) (by rw [how]; exact hsa) (vx_hat (fun w h => C.2.2.2.2.1 w (hgw w h)) hbw hB) hgood X.1 X.2.1 hS (hlv.1.trans C.2.2.1.symm) d0 d3 d4 d6 d9 (fun x hx => (hout x hx).elim) hRf hRl hRc hRs C.2.2.2.2.2.2.2.1 ?_ hS.2.2 hn hj
  intro t hal hz hq
  refine ⟨⟨rfl, ?_⟩, Nat.le_trans hS.1 hz, fun q h1 h2 => (hq q (Nat.lt_of_lt_of_le h1 hS.1)).trans (hS.2.1 q h1 h2)⟩
  exact hP.kept fun i q hi => hq q.1 (hP i q hi).lt
end GK
/-- a method's body, walked, gives its contract -/
theorem MC.ofG {l : Launch} {y : MethodName} {ws ws' : List Cond} {fr lo : Nat} {D : va_G} {TY : List (ClassId × FieldType)} {av : List Value} {w w' : va_W} {ex : Option String} {rv : Option Value} {n : Nat} {cc : ByteArray} {maxL : Nat} {ret : Option FieldType} (lv0 : List (Nat × Value)) (hy : plainName y.cls = true) (hw : ws = Cond.code y cc maxL ret :: ws') (hlen : (lg_sl av).length ≤ maxL) (hlv : lv_args 0 av = lv0)
    (body : ∀ (p : Program) (e : Env) (s : State) (m : MethodId) (args : Array Value) (below : List Frame) (meth : Method) (c : Code), gC p s m args meth c cc maxL y.cls ws D TY (va_A w s.heap.size) → meth.sig.returnType = ret → (∀ x ∈ c.exceptionTable.toList, False) →
      G p l e { frames := fr, cells := n, slots := 6 * n, locals := lo } s m args below meth c D (va_A w s.heap.size) maxL 0 0 (gQ below D w w' ex rv n args s) w lv0 0 []) : MC l y ws fr lo D TY av w w' ex rv n := by
  intro sz
  refine vx_ofW (cc := cc) (maxL := maxL) (ret := ret) hy hw ?_
  intro p e s m args below meth c s₁ B hml hout hv
  obtain ⟨rfl, rfl, hP, hK, hD0, hX⟩ := hv
  have hl := lv_entry av (n := maxL) hlen
  rw [lg_entry_eq]
  rw [hlv] at hl
  exact body p e s m _ below meth c ⟨B.exec, B.bytes, hml, findClass_of_methodNamed B.named, atoms_spec (ws := ws) B.pre, hK, fun q h => Or.inr h, B.notSynchronized, hX⟩ B.returns hout s.heap [] _ hP hD0.self va_S.rf hl
