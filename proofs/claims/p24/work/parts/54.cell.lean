/-! The script: the law's cells. -/
def cellV (L : Nat) (xs : Nat → Int32) (k : Nat) : Int32 := if nI L ≤ nI k then 51257 * (nI k + 103) + 3087707 else xs k
def xP (D : va_G) (TY : List (ClassId × FieldType)) (bs L : Nat) (xs : Nat → Int32) (av : List Value) (sz : Nat) : Array Value → State → Prop := fun a U => mP D TY [] av sz a U ∧ va_X bs L xs U U.heap ∧ bs < U.heap.size
/-- a method that reads the script: no world of its own -/
def MX (l : Launch) (y : MethodName) (ws : List Cond) (fr lo : Nat) (D : va_G) (TY : List (ClassId × FieldType)) (bs L : Nat) (xs : Nat → Int32) (av : List Value) (rv : Option Value) : Prop :=
  ∀ sz : Nat, vx_Met l y ws { frames := fr, cells := 0, slots := 6 * 0, locals := lo } (xP D TY bs L xs av sz) (mQ D [] [] none rv sz) (mX D [] none sz) 0 (6 * 0) (va_A [] sz)
theorem xP_blind {D : va_G} {TY : List (ClassId × FieldType)} {bs L : Nat} {xs : Nat → Int32} {av : List Value} {sz : Nat} : FrameBlind (xP D TY bs L xs av sz) := by
  intro a U g mk h
  obtain ⟨h1, h2, h3⟩ := h
  exact ⟨mP_blind a U g mk h1, va_X.moved (u := U) (U := U.calling g mk a) (Vm.Alike.refl U.vm) h2, h3⟩
theorem MX.ofG {l : Launch} {y : MethodName} {ws ws' : List Cond} {fr lo : Nat} {D : va_G} {TY : List (ClassId × FieldType)} {bs L : Nat} {xs : Nat → Int32} {av : List Value} {rv : Option Value} {cc : ByteArray} {maxL : Nat} {ret : Option FieldType} (lv0 : List (Nat × Value)) (hy : plainName y.cls = true) (hw : ws = Cond.code y cc maxL ret :: ws') (hlen : (lg_sl av).length ≤ maxL) (hlv : lv_args 0 av = lv0)
    (body : ∀ (p : Program) (e : Env) (s : State) (m : MethodId) (args : Array Value) (below : List Frame) (meth : Method) (c : Code), gC p s m args meth c cc maxL y.cls ws D TY (va_A [] s.heap.size) → meth.sig.returnType = ret → va_X bs L xs s s.heap → bs < s.heap.size →
      G p l e { frames := fr, cells := 0, slots := 6 * 0, locals := lo } s m args below meth c D (va_A [] s.heap.size) maxL 0 0 (gQ below D [] [] none rv 0 args s) [] lv0 0 []) : MX l y ws fr lo D TY bs L xs av rv := by
  intro sz
  refine vx_ofW (cc := cc) (maxL := maxL) (ret := ret) hy hw ?_
  intro p e s m args below meth c s₁ B hml hout hv
  obtain ⟨⟨rfl, rfl, hP, hK, hD0, hX⟩, hxx, hbl⟩ := hv
  have hl := lv_entry av (n := maxL) hlen
  rw [lg_entry_eq]
  rw [hlv] at hl
  exact body p e s m _ below meth c ⟨B.exec, B.bytes, hml, findClass_of_methodNamed B.named, atoms_spec (ws := ws) B.pre, hK, fun q h => Or.inr h, B.notSynchronized, hX⟩ B.returns hxx hbl s.heap [] _ hP hD0.self va_S.rf hl
section GCE
variable {p : Program} {l : Launch} {e : Env} {R : Room} {s : State} {m : MethodId} {args : Array Value} {below : List Frame} {meth : Method} {c : Code}
variable {cc : ByteArray} {nL : Nat} {own : String} {Ts : List Cond} {D : va_G} {TY : List (ClassId × FieldType)} {A : Nat → Prop}
variable {k j : Nat} {Q : State → Prop} {w : va_W} {lv : List (Nat × Value)} {pc : Nat} {st rest : List Value}
variable {y : MethodName} {bytes : ByteArray} {maxL fr lo ix na : Nat} {ret : Option FieldType} {ws ws' : List Cond} {av : List Value} {rv : Option Value} {bs L : Nat} {xs : Nat → Int32}
theorem g_sldN {b L : Nat} {xs : Nat → Int32} (i : Nat) (C : gC p s m args meth c cc nL own Ts D TY A) (hX : va_X b L xs s s.heap) (hbl : b < s.heap.size) (hbA : ¬ A b) (hin : i < L) (hL : L < 2 ^ 31) (hd : decode cc pc = .ok (.iaload, 1)) (K : G p l e R s m args below meth c D A nL k j Q w lv (pc + 1) (.int (xs i) :: st)) : G p l e R s m args below meth c D A nL k j Q w lv pc (.int (nI i) :: .ref b :: st) :=
  fun H locs ls hP hD hS hl => va_sld C.1 C.2.1 hX hbl hbA hS (vp_in_nI hin hL) hd (by rw [nI_clamp (by omega)]; exact K H locs ls hP hD hS hl)
theorem g_slen {b L : Nat} {xs : Nat → Int32} (C : gC p s m args meth c cc nL own Ts D TY A) (hX : va_X b L xs s s.heap) (hbl : b < s.heap.size) (hbA : ¬ A b) (hd : decode cc pc = .ok (.arraylength, 1)) (K : G p l e R s m args below meth c D A nL k j Q w lv (pc + 1) (.int (nI L) :: st)) : G p l e R s m args below meth c D A nL k j Q w lv pc (.ref b :: st) :=
  fun H locs ls hP hD hS hl => va_slen C.1 C.2.1 hX hbl hbA hS hd (K H locs ls hP hD hS hl)
/-- the law asks its script -/
theorem g_bX (hM : MX l y ws fr lo D TY bs L xs av rv) (hX : va_X bs L xs s s.heap) (hbl : bs < s.heap.size) (hbA : ¬ A bs) (C : gC p s m args meth c cc nL own Ts D TY A) (hG : GoodIn Ts (va_wsS own ix y ws)) (hw : ws = Cond.code y bytes maxL ret :: ws')
    (hd : y.cls ≠ "java/lang/invoke/MethodHandle" ∧ y.cls ≠ "java/lang/invoke/VarHandle" ∧ (parseMethodDescriptor y.desc).map (fun d => d.parameters.length) = some na) (hna : av.length = na) (hR : fr + 1 ≤ R.frames ∧ 8 + (maxL + 11) + lo ≤ R.locals)
    (hst : st = av.reverse ++ rest) (hW : (rest.map fun v => v.category).sum ≤ 8) (hf : k ≤ R.cells ∧ j ≤ R.slots) (hdg : decode cc pc = .ok (.invokestatic ix, 3))
    (KK : G p l e R s m args below meth c D A nL k j Q w lv (pc + 3) (rv.toList ++ rest)) : G p l e R s m args below meth c D A nL k j Q w lv pc st := by
  subst hst; subst hna
  intro H locs ls hP hD hS hl
  have hK : wX (fun z => z ++ w) [] w := wX_pre w
  have hPr : ∀ U : State, U.heap = H → s.WarmedH U.vm → xP D TY bs L xs av H.size av.toArray U := fun U hU hWm =>
    ⟨mP_of (K := fun z => z ++ w) (wc := []) hK C hP hD hS U hU hWm, by rw [hU]; exact va_X.moved hWm.alike (hX.kept (hS.2.1 bs hbl hbA)), by rw [hU]; exact Nat.lt_of_lt_of_le hbl hS.1⟩
  exact g_ret_of (K := fun z => z ++ w) (wc := []) (w1 := []) hK rfl C.2.2.2.2.2.2.1 hP hD hS hl (vx_runS (As := av) (rest := rest) ⟨C.1, C.2.1, C.2.2.1, C.2.2.2.1, C.2.2.2.2.1⟩ (hM H.size) (va_cwS av.length C.2.2.2.2.1 hG hw rfl rfl hd hR) ⟨xP_blind, hPr⟩ rfl rfl hl.1 rfl (lv_room hW) hdg hf) KK
end GCE
set_option maxRecDepth 100000 in
set_option maxHeartbeats 4000000 in
theorem c_cell (l : Launch) (D : va_G) (cI cJ : ClassId) (bs L : Nat) (xs : Nat → Int32) (k : Nat) (hk : k < 2 ^ 30) (hL : L ≤ 260) : MX l yL_cell wsL_cell 0 0 D (tyIJ cI cJ) bs L xs [.ref bs, .int (nI k)] (some (.int (cellV L xs k))) := by
  refine MX.ofG (cc := cL_cell) (maxL := 2) (ret := some .int) [(0, .ref bs), (1, .int (nI k))] (by decide) rfl (Nat.le_of_ble_eq_true rfl) rfl ?_
  intro p e s m args below meth c C hr hX hbl
  have hbA : ¬ va_A [] s.heap.size bs := by
    rintro (⟨n, e9, hn⟩ | h9)
    · simp at hn
    · omega
  refine g_iload_n 1 C rfl dL_cell_0 rfl ?_
  refine g_aload_n 0 C rfl dL_cell_1 rfl ?_
  refine g_slen C hX hbl hbA dL_cell_2 ?_
  refine g_icmp_ge 12 C dL_cell_3 (by decide) (fun c1 => ?_) (fun c1 => ?_)
  · refine g_ldc 51257 C (by decide +kernel) dL_cell_12 ?_
    refine g_iload_n 1 C rfl dL_cell_14 rfl ?_
    refine g_bipush 103 C dL_cell_15 (by decide) ?_
    refine g_iadd C dL_cell_17 ?_
    refine g_imul C dL_cell_18 ?_
    refine g_ldc 3087707 C (by decide +kernel) dL_cell_19 ?_
    refine g_iadd C dL_cell_21 ?_
    exact g_iret C hr rfl dL_cell_22 (Nat.zero_le _) (Nat.zero_le _) rfl (by rw [cellV, if_pos c1]) rfl
  · have hkL : k < L := Classical.byContradiction (fun z => c1 ((nI_leI (by omega) (by omega)).mpr (by omega)))
    refine g_aload_n 0 C rfl dL_cell_6 rfl ?_
    refine g_iload_n 1 C rfl dL_cell_7 rfl ?_
    refine g_sldN k C hX hbl hbA hkL (by omega) dL_cell_8 ?_
    refine g_goto 22 C dL_cell_9 (by decide) ?_
    exact g_iret C hr rfl dL_cell_22 (Nat.zero_le _) (Nat.zero_le _) rfl (by rw [cellV, if_neg c1]) rfl
