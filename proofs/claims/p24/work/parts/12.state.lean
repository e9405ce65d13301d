/-! The states of the book and of the reference as data; the worlds that hold them; plain facts. -/
abbrev gS : Type := (Nat → Int32) × (Nat → Nat → Int32)
def sS (σ : gS) (k : Nat) (v : Int32) : gS := (upd σ.1 k v, σ.2)
def sA (σ : gS) (k : Nat) (f : Nat → Int32) : gS := (σ.1, va_up σ.2 k f)
/-- the book: its numbers, and its arrays in the order of its fields -/
def wA (cI : ClassId) (h : Nat → Nat) (σ : gS) : va_W := [(h 0, .inr (0, [.int (σ.1 0), .int (σ.1 1), .int (σ.1 2), .int (σ.1 3), .int (σ.1 4), .ref (h 1), .ref (h 2), .ref (h 3), .ref (h 4), .ref (h 5), .ref (h 6), .ref (h 7), .ref (h 8), .ref (h 9), .ref (h 10), .ref (h 11), .ref (h 12)])),
  (h 1, .inl (cI, 18, .inl (σ.2 0))), (h 2, .inl (cI, 12, .inl (σ.2 1))), (h 3, .inl (cI, 12, .inl (σ.2 2))), (h 4, .inl (cI, 1284, .inl (σ.2 3))), (h 5, .inl (cI, 8, .inl (σ.2 4))), (h 6, .inl (cI, 8, .inl (σ.2 5))), (h 7, .inl (cI, 8, .inl (σ.2 6))), (h 8, .inl (cI, 8, .inl (σ.2 7))), (h 9, .inl (cI, 8, .inl (σ.2 8))), (h 10, .inl (cI, 8, .inl (σ.2 9))), (h 11, .inl (cI, 4, .inl (σ.2 10))), (h 12, .inl (cI, 4, .inl (σ.2 11)))]
/-- the reference: thrown, pigments, tubes, pots, pictures, today; its arrays in the order of its fields -/
def wM (cI : ClassId) (h : Nat → Nat) (τ : gS) : va_W := [(h 0, .inr (1, [.int (τ.1 0), .int (τ.1 1), .ref (h 1), .int (τ.1 2), .ref (h 2), .ref (h 3), .ref (h 4), .int (τ.1 3), .ref (h 5), .int (τ.1 4), .ref (h 6), .ref (h 7), .ref (h 8), .ref (h 9), .ref (h 10), .ref (h 11), .ref (h 12), .ref (h 13), .ref (h 14), .int (τ.1 5), .ref (h 15), .ref (h 16)])),
  (h 1, .inl (cI, 18, .inl (τ.2 0))), (h 2, .inl (cI, 12, .inl (τ.2 1))), (h 3, .inl (cI, 12, .inl (τ.2 2))), (h 4, .inl (cI, 12, .inl (τ.2 3))), (h 5, .inl (cI, 120, .inl (τ.2 4))), (h 6, .inl (cI, 8, .inl (τ.2 5))), (h 7, .inl (cI, 1152, .inl (τ.2 6))), (h 8, .inl (cI, 8, .inl (τ.2 7))), (h 9, .inl (cI, 8, .inl (τ.2 8))), (h 10, .inl (cI, 8, .inl (τ.2 9))), (h 11, .inl (cI, 8, .inl (τ.2 10))), (h 12, .inl (cI, 8, .inl (τ.2 11))), (h 13, .inl (cI, 4, .inl (τ.2 12))), (h 14, .inl (cI, 4, .inl (τ.2 13))), (h 15, .inl (cI, 12, .inl (τ.2 14))), (h 16, .inl (cI, 6, .inl (τ.2 15)))]
abbrev tyIJ (cI cJ : ClassId) : List (ClassId × FieldType) := [(cI, .int)]
def isum (f : Nat → Int32) : Nat → Int32
  | 0 => 0
  | n + 1 => isum f n + f n
abbrev bad (n c : Int32) : Prop := n < 0 ∨ ¬ n < c
abbrev out (v lo hi : Int32) : Prop := v < lo ∨ ¬ v ≤ hi
def bI (c : Prop) [Decidable c] : Int32 := if c then 1 else 0
theorem bI_1 {c : Prop} [Decidable c] (h : c) : bI c = 1 := if_pos h
theorem bI_0 {c : Prop} [Decidable c] (h : ¬ c) : bI c = 0 := if_neg h
theorem bI_ne {c : Prop} [Decidable c] (h : ¬ bI c = 0) : c := Classical.byContradiction fun q => h (bI_0 q)
theorem bI_eq {c : Prop} [Decidable c] (h : bI c = 0) : ¬ c := fun q => by rw [bI_1 q] at h; exact absurd h (by decide)
/-- the exceptions by numbers -/
def exT : Nat → Option String
  | 0 => none
  | 1 => some eIOB
  | 2 => some eIAE
  | _ => some eISE
def nT : Nat → Nat
  | 0 => 0
  | _ => 1
def exB (E : String) (c : Prop) [Decidable c] : Option String := if c then some E else none
def nB (c : Prop) [Decidable c] : Nat := if c then 1 else 0
theorem nb_of {x c : Int32} {N : Nat} (hc : c = nI N) (hN : N < 2 ^ 31) (h : ¬ bad x c) : ∃ a : Nat, a < N ∧ x = nI a := by
  have h1 : ¬ x < 0 := fun q => h (Or.inl q)
  have h2 : x < c := Classical.byContradiction fun q => h (Or.inr q)
  obtain ⟨a, ha, rfl⟩ := nI_of h1
  exact ⟨a, by rw [hc] at h2; exact (nI_ltI ha hN).mp h2, rfl⟩
theorem nb_in {a N : Nat} (ha : a < N) (hN : N < 2 ^ 31) : ¬ bad (nI a) (nI N) := by
  rintro (h | h)
  · exact nI_pos (by omega) h
  · exact h (nI_lt ha hN)
theorem i32_le {x y : Int32} : x ≤ y ↔ x.toInt ≤ y.toInt := Int32.le_iff_toInt_le
theorem i32_lt {x y : Int32} : x < y ↔ x.toInt < y.toInt := Int32.lt_iff_toInt_lt
theorem i32_eq {x y : Int32} : x = y ↔ x.toInt = y.toInt := ⟨fun h => by rw [h], fun h => Int32.toInt_inj.mp h⟩
section GN
variable {p : Program} {l : Launch} {e : Env} {R : Room} {s : State} {m : MethodId} {args : Array Value} {below : List Frame} {meth : Method} {c : Code}
variable {cc : ByteArray} {nL : Nat} {own : String} {Ts : List Cond} {D : va_G} {TY : List (ClassId × FieldType)} {A : Nat → Prop}
variable {k j : Nat} {Q : State → Prop} {w : va_W} {lv : List (Nat × Value)} {pc : Nat} {st rest : List Value}
theorem g_iaddN (a b : Nat) (C : gC p s m args meth c cc nL own Ts D TY A) (hd : decode cc pc = .ok (.iadd, 1)) (K : G p l e R s m args below meth c D A nL k j Q w lv (pc + 1) (.int (nI (a + b)) :: st)) : G p l e R s m args below meth c D A nL k j Q w lv pc (.int (nI b) :: .int (nI a) :: st) :=
  g_iadd C hd (by rw [nI_add]; exact K)
theorem g_imulN (a b : Nat) (C : gC p s m args meth c cc nL own Ts D TY A) (hd : decode cc pc = .ok (.imul, 1)) (K : G p l e R s m args below meth c D A nL k j Q w lv (pc + 1) (.int (nI (a * b)) :: st)) : G p l e R s m args below meth c D A nL k j Q w lv pc (.int (nI b) :: .int (nI a) :: st) :=
  g_imul C hd (by rw [pk_mul]; exact K)
theorem g_isubN (a b : Nat) (C : gC p s m args meth c cc nL own Ts D TY A) (h : b ≤ a) (hd : decode cc pc = .ok (.isub, 1)) (K : G p l e R s m args below meth c D A nL k j Q w lv (pc + 1) (.int (nI (a - b)) :: st)) : G p l e R s m args below meth c D A nL k j Q w lv pc (.int (nI b) :: .int (nI a) :: st) :=
  g_isub C hd (by rw [pk_sub h]; exact K)
theorem g_iincN {i : Nat} {n : Int} (q a b : Nat) (lv' : List (Nat × Value)) (C : gC p s m args meth c cc nL own Ts D TY A) (hd : decode cc pc = .ok (.iinc i n, 3)) (hj : lv[q]? = some (i, .int (nI a))) (hv : Int32.ofInt n = nI b) (hn : i < nL) (hl : (i, Value.int (nI (a + b))) :: lv.filter (fun q => !(q.1 == i) && !(q.1 + 1 == i && q.2.category == 2)) = lv') (K : G p l e R s m args below meth c D A nL k j Q w lv' (pc + 3) st) : G p l e R s m args below meth c D A nL k j Q w lv pc st :=
  g_iinc q (nI (a + b)) lv' C hd hj (by rw [hv, nI_add]) hn hl K
theorem g_ialdN {cA : ClassId} {n a : Nat} {f : Nat → Int32} (i q0 t0 : Nat) (C : gC p s m args meth c cc nL own Ts D TY A) (ha : w[q0]? = some (a, .inl (cA, n, .inl f))) (ht : TY[t0]? = some (cA, .int)) (hin : i < n) (hN : n < 2 ^ 31) (hd : decode cc pc = .ok (.iaload, 1)) (K : G p l e R s m args below meth c D A nL k j Q w lv (pc + 1) (.int (f i) :: st)) : G p l e R s m args below meth c D A nL k j Q w lv pc (.int (nI i) :: .ref a :: st) :=
  g_iald q0 t0 C ha ht (vp_in_nI hin hN) hd (by rw [nI_clamp (by omega)]; exact K)
theorem g_iastN {cA : ClassId} {n a : Nat} {f : Nat → Int32} {x : Int32} (i q0 t0 : Nat) (w' : va_W) (C : gC p s m args meth c cc nL own Ts D TY A) (ha : w[q0]? = some (a, .inl (cA, n, .inl f))) (ht : TY[t0]? = some (cA, .int)) (hin : i < n) (hN : n < 2 ^ 31) (hw' : w.set q0 (a, .inl (cA, n, .inl (upd f i x))) = w') (hd : decode cc pc = .ok (.iastore, 1)) (K : G p l e R s m args below meth c D A nL k j Q w' lv (pc + 1) st) : G p l e R s m args below meth c D A nL k j Q w lv pc (.int x :: .int (nI i) :: .ref a :: st) :=
  g_iast q0 t0 w' C ha ht (vp_in_nI hin hN) (by rw [nI_clamp (by omega)]; exact hw') hd K
end GN
section GM
variable {p : Program} {l : Launch} {e : Env} {R : Room} {s : State} {m : MethodId} {args : Array Value} {below : List Frame} {meth : Method} {c : Code}
variable {cc : ByteArray} {nL : Nat} {own : String} {Ts : List Cond} {D : va_G} {TY : List (ClassId × FieldType)} {A : Nat → Prop}
variable {k j : Nat} {Q : State → Prop} {w : va_W} {lv : List (Nat × Value)} {pc : Nat} {st rest : List Value}
variable {y : MethodName} {bytes : ByteArray} {maxL fr lo ix na : Nat} {ret : Option FieldType} {ws ws' : List Cond} {av As : List Value} {w1 : va_W} {rv : Option Value}
theorem g_callS0 (hM : MC l y ws fr lo D TY av w w1 none rv 0) (C : gC p s m args meth c cc nL own Ts D TY A) (hG : GoodIn Ts (va_wsS own ix y ws)) (hw : ws = Cond.code y bytes maxL ret :: ws')
    (hd : y.cls ≠ "java/lang/invoke/MethodHandle" ∧ y.cls ≠ "java/lang/invoke/VarHandle" ∧ (parseMethodDescriptor y.desc).map (fun d => d.parameters.length) = some na) (hna : av.length = na) (hR : fr + 1 ≤ R.frames ∧ 8 + (maxL + 11) + lo ≤ R.locals)
    (hst : st = av.reverse ++ rest) (hW : (rest.map fun v => v.category).sum ≤ 8) (hf : k ≤ R.cells ∧ j ≤ R.slots) (hm : w1.map Prod.fst = w.map Prod.fst) (hdg : decode cc pc = .ok (.invokestatic ix, 3))
    (KK : G p l e R s m args below meth c D A nL k j Q w1 lv (pc + 3) (rv.toList ++ rest)) : G p l e R s m args below meth c D A nL k j Q w lv pc st :=
  g_callS (fun w => w) wX_id hM C hG hw hd hna hR hst hW hf hm hdg KK
theorem g_callV0 {C0 : String} {fs : List Value} {T : u_T} {N b ci : Nat} (hM : MC l y ws fr lo D TY (.ref b :: As) w w1 none rv 0) (C : gC p s m args meth c cc nL own Ts D TY A) (hG : GoodIn Ts (wsV own ix C0 y ws)) (hw : ws = Cond.code y bytes maxL ret :: ws')
    (hd : y.cls = C0 ∧ y.cls ≠ "java/lang/invoke/MethodHandle" ∧ y.cls ≠ "java/lang/invoke/VarHandle" ∧ (parseMethodDescriptor y.desc).map (fun d => d.parameters.length) = some na) (hna : As.length = na) (hR : fr + 1 ≤ R.frames ∧ 8 + (maxL + 11) + lo ≤ R.locals)
    (he : w[0]? = some (b, .inr (ci, fs))) (hc : vwCl[ci]? = some (C0, T, N))
    (hst : st = As.reverse ++ .ref b :: rest) (hW : (rest.map fun v => v.category).sum ≤ 8) (hf : k ≤ R.cells ∧ j ≤ R.slots) (hm : w1.map Prod.fst = w.map Prod.fst) (hdg : decode cc pc = .ok (.invokevirtual ix, 3))
    (KK : G p l e R s m args below meth c D A nL k j Q w1 lv (pc + 3) (rv.toList ++ rest)) : G p l e R s m args below meth c D A nL k j Q w lv pc st :=
  g_callV (fun w => w) wX_id hM C hG hw hd hna hR he hc hst hW hf hm hdg KK
end GM
