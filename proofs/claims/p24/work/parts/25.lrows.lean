/-! The law's arrays, the world of book and law, rows for both. -/
/-- c t p l u r d f -/
def wL (cI : ClassId) (g : Nat → Nat) (τ : gS) : va_W := [(g 0, .inl (cI, 12, .inl (τ.2 0))), (g 1, .inl (cI, 18, .inl (τ.2 1))), (g 2, .inl (cI, 24, .inl (τ.2 2))), (g 3, .inl (cI, 12, .inl (τ.2 3))), (g 4, .inl (cI, 12, .inl (τ.2 4))), (g 5, .inl (cI, 28, .inl (τ.2 5))), (g 6, .inl (cI, 8, .inl (τ.2 6))), (g 7, .inl (cI, 6, .inl (τ.2 7)))]
def wB (cI : ClassId) (h g : Nat → Nat) (σ τ : gS) : va_W := wA cI h σ ++ wL cI g τ
/-- the lowest part of a number, as the law takes it -/
def lowN (v : Int32) (n : Nat) : Nat := v.toBitVec.toNat % 2 ^ 31 % n
theorem lowN_lt (v : Int32) {n : Nat} (h : 0 < n) : lowN v n < n := Nat.mod_lt _ h
/-- what the law reads out of a layer -/
def grL (τ : gS) (k t : Nat) : Int32 := ((if t < 3 then τ.2 3 k else τ.2 4 k) >>> (nI (10 * (t % 3)) &&& 31)) &&& 1023
section GLR
variable {p : Program} {l : Launch} {e : Env} {R : Room} {s : State} {m : MethodId} {args : Array Value} {below : List Frame} {meth : Method} {c : Code}
variable {cc : ByteArray} {nL : Nat} {own : String} {Ts : List Cond} {D : va_G} {TY : List (ClassId × FieldType)} {A : Nat → Prop}
variable {k j : Nat} {Q : State → Prop} {w : va_W} {lv : List (Nat × Value)} {pc : Nat} {st rest : List Value}
theorem g_irem {x y : Int32} (C : gC p s m args meth c cc nL own Ts D TY A) (hne : ¬ y = 0) (hd : decode cc pc = .ok (.irem, 1)) (K : G p l e R s m args below meth c D A nL k j Q w lv (pc + 1) (.int (x - x / y * y) :: st)) : G p l e R s m args below meth c D A nL k j Q w lv pc (.int y :: .int x :: st) :=
  fun H locs ls hP hD hS hl => lv_irem C.1 C.2.1 hd hne (K H locs ls hP hD hS hl)
theorem g_iremN (a b : Nat) (C : gC p s m args meth c cc nL own Ts D TY A) (ha : a < 2 ^ 31) (h0 : 0 < b) (hb : b < 2 ^ 31) (hd : decode cc pc = .ok (.irem, 1)) (K : G p l e R s m args below meth c D A nL k j Q w lv (pc + 1) (.int (nI (a % b)) :: st)) : G p l e R s m args below meth c D A nL k j Q w lv pc (.int (nI b) :: .int (nI a) :: st) :=
  g_irem C (nI_ne0 h0 hb) hd (by rw [pk_rem ha h0 hb]; exact K)
theorem g_ishr {x y : Int32} (C : gC p s m args meth c cc nL own Ts D TY A) (hd : decode cc pc = .ok (.ishr, 1)) (K : G p l e R s m args below meth c D A nL k j Q w lv (pc + 1) (.int (x >>> (y &&& 31)) :: st)) : G p l e R s m args below meth c D A nL k j Q w lv pc (.int y :: .int x :: st) :=
  fun H locs ls hP hD hS hl => lv_ishr C.1 C.2.1 hd (K H locs ls hP hD hS hl)
end GLR
section GLC
variable {p : Program} {l : Launch} {e : Env} {R : Room} {s : State} {m : MethodId} {args : Array Value} {below : List Frame} {meth : Method} {c : Code}
variable {cc : ByteArray} {nL : Nat} {own : String} {Ts : List Cond} {D : va_G} {TY : List (ClassId × FieldType)} {A : Nat → Prop}
variable {k j : Nat} {Q : State → Prop} {w : va_W} {lv : List (Nat × Value)} {pc : Nat} {st rest : List Value}
variable {y : MethodName} {bytes : ByteArray} {maxL fr lo n ix na : Nat} {ret : Option FieldType} {ws ws' : List Cond} {av As : List Value} {w1 : va_W} {rv : Option Value} {E : String}
variable {cI : ClassId} {h g : Nat → Nat} {σ σ' τ τ' : gS}
/-- the law calls its own, over its arrays -/
theorem g_bL (hM : MC l y ws fr lo D TY av (wL cI g τ) (wL cI g τ') none rv n) (C : gC p s m args meth c cc nL own Ts D TY A) (hG : GoodIn Ts (va_wsS own ix y ws)) (hw : ws = Cond.code y bytes maxL ret :: ws')
    (hd : y.cls ≠ "java/lang/invoke/MethodHandle" ∧ y.cls ≠ "java/lang/invoke/VarHandle" ∧ (parseMethodDescriptor y.desc).map (fun d => d.parameters.length) = some na) (hna : av.length = na) (hR : fr + 1 ≤ R.frames ∧ 8 + (maxL + 11) + lo ≤ R.locals)
    (hst : st = av.reverse ++ rest) (hW : (rest.map fun v => v.category).sum ≤ 8) (hf : k + n ≤ R.cells ∧ j + 6 * n ≤ R.slots) (hdg : decode cc pc = .ok (.invokestatic ix, 3))
    (KK : G p l e R s m args below meth c D A nL (k + n) (j + 6 * n) Q (wB cI h g σ τ') lv (pc + 3) (rv.toList ++ rest)) : G p l e R s m args below meth c D A nL k j Q (wB cI h g σ τ) lv pc st :=
  g_callS (fun w => wA cI h σ ++ w) (wX_suf _) hM C hG hw hd hna hR hst hW hf rfl hdg KK
/-- the law calls its own, over both -/
theorem g_bB (hM : MC l y ws fr lo D TY av (wB cI h g σ τ) (wB cI h g σ' τ') none rv n) (C : gC p s m args meth c cc nL own Ts D TY A) (hG : GoodIn Ts (va_wsS own ix y ws)) (hw : ws = Cond.code y bytes maxL ret :: ws')
    (hd : y.cls ≠ "java/lang/invoke/MethodHandle" ∧ y.cls ≠ "java/lang/invoke/VarHandle" ∧ (parseMethodDescriptor y.desc).map (fun d => d.parameters.length) = some na) (hna : av.length = na) (hR : fr + 1 ≤ R.frames ∧ 8 + (maxL + 11) + lo ≤ R.locals)
    (hst : st = av.reverse ++ rest) (hW : (rest.map fun v => v.category).sum ≤ 8) (hf : k + n ≤ R.cells ∧ j + 6 * n ≤ R.slots) (hdg : decode cc pc = .ok (.invokestatic ix, 3))
    (KK : G p l e R s m args below meth c D A nL (k + n) (j + 6 * n) Q (wB cI h g σ' τ') lv (pc + 3) (rv.toList ++ rest)) : G p l e R s m args below meth c D A nL k j Q (wB cI h g σ τ) lv pc st :=
  g_callS (fun w => w) wX_id hM C hG hw hd hna hR hst hW hf rfl hdg KK
/-- the law calls a method that needs no world -/
theorem g_bS (hM : MC l y ws fr lo D TY av w w none rv 0) (C : gC p s m args meth c cc nL own Ts D TY A) (hG : GoodIn Ts (va_wsS own ix y ws)) (hw : ws = Cond.code y bytes maxL ret :: ws')
    (hd : y.cls ≠ "java/lang/invoke/MethodHandle" ∧ y.cls ≠ "java/lang/invoke/VarHandle" ∧ (parseMethodDescriptor y.desc).map (fun d => d.parameters.length) = some na) (hna : av.length = na) (hR : fr + 1 ≤ R.frames ∧ 8 + (maxL + 11) + lo ≤ R.locals)
    (hst : st = av.reverse ++ rest) (hW : (rest.map fun v => v.category).sum ≤ 8) (hf : k ≤ R.cells ∧ j ≤ R.slots) (hdg : decode cc pc = .ok (.invokestatic ix, 3))
    (KK : G p l e R s m args below meth c D A nL k j Q w lv (pc + 3) (rv.toList ++ rest)) : G p l e R s m args below meth c D A nL k j Q w lv pc st :=
  g_callS (fun w => w) wX_id hM C hG hw hd hna hR hst hW hf rfl hdg KK
/-- the law calls the book -/
theorem g_bV (hM : MC l y ws fr lo D TY (.ref (h 0) :: As) (wA cI h σ) (wA cI h σ') none rv n) (C : gC p s m args meth c cc nL own Ts D TY A) (hG : GoodIn Ts (wsV own ix RX0 y ws)) (hw : ws = Cond.code y bytes maxL ret :: ws')
    (hd : y.cls = RX0 ∧ y.cls ≠ "java/lang/invoke/MethodHandle" ∧ y.cls ≠ "java/lang/invoke/VarHandle" ∧ (parseMethodDescriptor y.desc).map (fun d => d.parameters.length) = some na) (hna : As.length = na) (hR : fr + 1 ≤ R.frames ∧ 8 + (maxL + 11) + lo ≤ R.locals)
    (hst : st = As.reverse ++ .ref (h 0) :: rest) (hW : (rest.map fun v => v.category).sum ≤ 8) (hf : k + n ≤ R.cells ∧ j + 6 * n ≤ R.slots) (hdg : decode cc pc = .ok (.invokevirtual ix, 3))
    (KK : G p l e R s m args below meth c D A nL (k + n) (j + 6 * n) Q (wB cI h g σ' τ) lv (pc + 3) (rv.toList ++ rest)) : G p l e R s m args below meth c D A nL k j Q (wB cI h g σ τ) lv pc st :=
  g_callV (C0 := RX0) (T := TX0) (N := 17) (ci := 0) (fun w => w ++ wL cI g τ) (wX_pre _) hM C hG hw hd hna hR rfl rfl hst hW hf rfl hdg KK
/-- the law's call of the book that catches -/
theorem g_bA {hh : List (Nat × Nat × Nat × Nat)} (hM : MC l y ws fr lo D TY av (wA cI h σ) (wA cI h σ') none rv n) (C : gC p s m args meth c cc nL own Ts D TY A) (hG : GoodIn Ts (va_wsS own ix y ws)) (hw : ws = Cond.codeWith y bytes maxL ret hh :: ws')
    (hd : y.cls ≠ "java/lang/invoke/MethodHandle" ∧ y.cls ≠ "java/lang/invoke/VarHandle" ∧ (parseMethodDescriptor y.desc).map (fun d => d.parameters.length) = some na) (hna : av.length = na) (hR : fr + 1 ≤ R.frames ∧ 8 + (maxL + 11) + lo ≤ R.locals)
    (hst : st = av.reverse ++ rest) (hW : (rest.map fun v => v.category).sum ≤ 8) (hf : k + n ≤ R.cells ∧ j + 6 * n ≤ R.slots) (hdg : decode cc pc = .ok (.invokestatic ix, 3))
    (KK : G p l e R s m args below meth c D A nL (k + n) (j + 6 * n) Q (wB cI h g σ' τ) lv (pc + 3) (rv.toList ++ rest)) : G p l e R s m args below meth c D A nL k j Q (wB cI h g σ τ) lv pc st := by
  subst hst; subst hna
  intro H locs ls hP hD hS hl
  have hK : wX (fun w => w ++ wL cI g τ) [] (wL cI g τ) := wX_pre _
  exact g_ret_of (wc := wA cI h σ) (w1 := wA cI h σ') hK rfl C.2.2.2.2.2.2.1 hP hD hS hl (vx_runSX (As := av) (rest := rest) ⟨C.1, C.2.1, C.2.2.1, C.2.2.2.1, C.2.2.2.2.1⟩ (hM H.size) (vx_cwSW av.length C.2.2.2.2.1 hG hw rfl rfl hd hR) ⟨mP_blind, mP_of hK C hP hD hS⟩ rfl rfl hl.1 rfl (lv_room hW) hdg hf) KK
/-- inside that call: what the book throws is caught here -/
theorem g_callVOC {xs : List ExceptionTableEntry} (hM : MC l y ws fr lo D TY (.ref (h 0) :: As) (wA cI h σ) w1 (some E) rv n) (C : gC p s m args meth c cc nL own Ts D TY A) (hG : GoodIn Ts (wsV own ix RX0 y ws)) (hw : ws = Cond.code y bytes maxL ret :: ws')
    (hd : y.cls = RX0 ∧ y.cls ≠ "java/lang/invoke/MethodHandle" ∧ y.cls ≠ "java/lang/invoke/VarHandle" ∧ (parseMethodDescriptor y.desc).map (fun d => d.parameters.length) = some na) (hna : As.length = na) (hR : fr + 1 ≤ R.frames ∧ 8 + (maxL + 11) + lo ≤ R.locals)
    (hst : st = As.reverse ++ .ref (h 0) :: rest) (hW : (rest.map fun v => v.category).sum ≤ 8) (hf : k + n ≤ R.cells ∧ j + 6 * n ≤ R.slots) (hdg : decode cc pc = .ok (.invokevirtual ix, 3))
    {hh : List (Nat × Nat × Nat × Nat)} (htab : c.exceptionTable.toList = tableOf hh) (x : ExceptionTableEntry) (hsplit : tableOf hh = x :: xs)
    (hx : covers x pc = true) (h0 : x.catchType ≠ 0) (hlink : Cond.classLink own x.catchType E ∈ Ts) (hE : Cond.castable E E ∈ xeB)
    (KK : ∀ q : Nat, G p l e R s m args below meth c D A nL (k + n) (j + 6 * n) Q (wA cI h σ) lv x.handlerPc [.ref q]) : G p l e R s m args below meth c D A nL k j Q (wA cI h σ) lv pc st :=
  g_callVC (C0 := RX0) (T := TX0) (N := 17) (ci := 0) (fun w => w) wX_id hM C hG hw hd hna hR rfl rfl hst hW hf hdg htab [] x xs hsplit (fun z hz => absurd hz List.not_mem_nil) hx h0 hlink hE KK
end GLC
