/-! Rows of the law's own walk. -/
def wW (cI cJ : ClassId) (h : Nat → Nat) (ho : Nat) (g : Nat → Nat) (σ : gS) (fo : Nat → Int64) (τ : gS) : va_W := wO cI cJ h ho σ fo ++ wM cI g τ
section GL
variable {p : Program} {l : Launch} {e : Env} {R : Room} {s : State} {m : MethodId} {args : Array Value} {below : List Frame} {meth : Method} {c : Code}
variable {cc : ByteArray} {nL : Nat} {own : String} {Ts : List Cond} {D : va_G} {TY : List (ClassId × FieldType)} {A : Nat → Prop}
variable {k j : Nat} {Q : State → Prop} {w : va_W} {lv : List (Nat × Value)} {pc : Nat} {st rest : List Value}
variable {y : MethodName} {bytes : ByteArray} {maxL fr lo n ix na : Nat} {ret : Option FieldType} {ws ws' : List Cond} {av As : List Value} {wc w1 wl wr : va_W} {rv : Option Value}
variable {cI cJ : ClassId} {h g : Nat → Nat} {ho : Nat} {σ σ' τ τ' : gS} {fo fo' : Nat → Int64}
theorem g_sldN {b L : Nat} {xs : Nat → Int32} (i : Nat) (C : gC p s m args meth c cc nL own Ts D TY A) (hX : va_X b L xs s s.heap) (hbl : b < s.heap.size) (hbA : ¬ A b) (hin : i < L) (hL : L < 2 ^ 31) (hd : decode cc pc = .ok (.iaload, 1)) (K : G p l e R s m args below meth c D A nL k j Q w lv (pc + 1) (.int (xs i) :: st)) : G p l e R s m args below meth c D A nL k j Q w lv pc (.int (nI i) :: .ref b :: st) :=
  fun H locs ls hP hD hS hl => va_sld C.1 C.2.1 hX hbl hbA hS (vp_in_nI hin hL) hd (by rw [nI_clamp (by omega)]; exact K H locs ls hP hD hS hl)
theorem g_slen {b L : Nat} {xs : Nat → Int32} (C : gC p s m args meth c cc nL own Ts D TY A) (hX : va_X b L xs s s.heap) (hbl : b < s.heap.size) (hbA : ¬ A b) (hd : decode cc pc = .ok (.arraylength, 1)) (K : G p l e R s m args below meth c D A nL k j Q w lv (pc + 1) (.int (nI L) :: st)) : G p l e R s m args below meth c D A nL k j Q w lv pc (.ref b :: st) :=
  fun H locs ls hP hD hS hl => va_slen C.1 C.2.1 hX hbl hbA hS hd (K H locs ls hP hD hS hl)
/-- a static call, of a method with a table of its own -/
theorem g_callSH {hh : List (Nat × Nat × Nat × Nat)} (hM : MC l y ws fr lo D TY av (wO cI cJ h ho σ fo) (wO cI cJ h ho σ' fo') none rv n) (C : gC p s m args meth c cc nL own Ts D TY A) (hG : GoodIn Ts (va_wsS own ix y ws)) (hw : ws = Cond.codeWith y bytes maxL ret hh :: ws')
    (hd : y.cls ≠ "java/lang/invoke/MethodHandle" ∧ y.cls ≠ "java/lang/invoke/VarHandle" ∧ (parseMethodDescriptor y.desc).map (fun d => d.parameters.length) = some na) (hna : av.length = na) (hR : fr + 1 ≤ R.frames ∧ 8 + (maxL + 11) + lo ≤ R.locals)
    (hst : st = av.reverse ++ rest) (hW : (rest.map fun v => v.category).sum ≤ 8) (hf : k + n ≤ R.cells ∧ j + 6 * n ≤ R.slots) (hdg : decode cc pc = .ok (.invokestatic ix, 3))
    (KK : G p l e R s m args below meth c D A nL (k + n) (j + 6 * n) Q (wW cI cJ h ho g σ' fo' τ) lv (pc + 3) (rv.toList ++ rest)) : G p l e R s m args below meth c D A nL k j Q (wW cI cJ h ho g σ fo τ) lv pc st := by
  subst hst; subst hna
  intro H locs ls hP hD hS hl
  have hK : wX (fun w => w ++ wM cI g τ) [] (wM cI g τ) := wX_pre _
  exact g_ret_of (wc := wO cI cJ h ho σ fo) (w1 := wO cI cJ h ho σ' fo') hK rfl C.2.2.2.2.2.2.1 hP hD hS hl (vx_runSX (As := av) (rest := rest) ⟨C.1, C.2.1, C.2.2.1, C.2.2.2.1, C.2.2.2.2.1⟩ (hM H.size) (vx_cwSW av.length C.2.2.2.2.1 hG hw rfl rfl hd hR) ⟨mP_blind, mP_of hK C hP hD hS⟩ rfl rfl hl.1 rfl (lv_room hW) hdg hf) KK
/-- a call of the reference -/
theorem g_callM (hM : MC l y ws fr lo D TY (.ref (g 0) :: As) (wM cI g τ) (wM cI g τ') none rv 0) (C : gC p s m args meth c cc nL own Ts D TY A) (hG : GoodIn Ts (wsV own ix RX1 y ws)) (hw : ws = Cond.code y bytes maxL ret :: ws')
    (hd : y.cls = RX1 ∧ y.cls ≠ "java/lang/invoke/MethodHandle" ∧ y.cls ≠ "java/lang/invoke/VarHandle" ∧ (parseMethodDescriptor y.desc).map (fun d => d.parameters.length) = some na) (hna : As.length = na) (hR : fr + 1 ≤ R.frames ∧ 8 + (maxL + 11) + lo ≤ R.locals)
    (hst : st = As.reverse ++ .ref (g 0) :: rest) (hW : (rest.map fun v => v.category).sum ≤ 8) (hf : k ≤ R.cells ∧ j ≤ R.slots) (hdg : decode cc pc = .ok (.invokevirtual ix, 3))
    (KK : G p l e R s m args below meth c D A nL k j Q (wW cI cJ h ho g σ fo τ') lv (pc + 3) (rv.toList ++ rest)) : G p l e R s m args below meth c D A nL k j Q (wW cI cJ h ho g σ fo τ) lv pc st :=
  g_callV (C0 := RX1) (T := TX1) (N := 22) (ci := 1) (fun w => wO cI cJ h ho σ fo ++ w) (wX_suf _) hM C hG hw hd hna hR rfl rfl hst hW hf rfl hdg KK
end GL
theorem lg_same (x : Int64) : lg_cmp x x = 0 := by
  unfold lg_cmp
  rw [if_neg (by simp), if_pos rfl]
