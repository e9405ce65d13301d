/-! What the book's methods answer, as functions of its state. -/
section GX
variable {p : Program} {l : Launch} {e : Env} {R : Room} {s : State} {m : MethodId} {args : Array Value} {below : List Frame} {meth : Method} {c : Code}
variable {cc : ByteArray} {nL : Nat} {own : String} {Ts : List Cond} {D : va_G} {TY : List (ClassId × FieldType)} {A : Nat → Prop}
variable {k j : Nat} {Q : State → Prop} {w : va_W} {lv : List (Nat × Value)} {pc : Nat} {st rest : List Value}
theorem g_max {ix : Nat} {x y : Int32} (C : gC p s m args meth c cc nL own Ts D TY A) (h1 : Cond.methodLink own ix Lib.Math.max.name ∈ Ts) (h2 : Cond.static Lib.Math.max.name ∈ Ts) (h3 : Cond.initialized "java/lang/Math" ∈ Ts) (h4 : Cond.code Lib.Math.max.name Lib.Math.max.code 2 (some .int) ∈ Ts) (hf : 1 ≤ R.frames) (hl : (st.map fun v => v.category).sum + 13 ≤ R.locals) (hc : k ≤ R.cells) (hs : j ≤ R.slots) (hd : decode cc pc = .ok (.invokestatic ix, 3)) (K : G p l e R s m args below meth c D A nL k j Q w lv (pc + 3) (.int (if x < y then y else x) :: st)) : G p l e R s m args below meth c D A nL k j Q w lv pc (.int y :: .int x :: st) :=
  fun H locs ls hP hD hS hv => va_mmax C.1 C.2.1 (C.2.2.1.trans hv.1.symm) C.2.2.2.1 (C.2.2.2.2.1 _ h1) (C.2.2.2.2.1 _ h2) (C.2.2.2.2.1 _ h3) (C.2.2.2.2.1 _ h4) hf hl hc hs hd (K H locs ls hP hD hS hv)
theorem g_min {ix : Nat} {x y : Int32} (C : gC p s m args meth c cc nL own Ts D TY A) (h1 : Cond.methodLink own ix Lib.Math.min.name ∈ Ts) (h2 : Cond.static Lib.Math.min.name ∈ Ts) (h3 : Cond.initialized "java/lang/Math" ∈ Ts) (h4 : Cond.code Lib.Math.min.name Lib.Math.min.code 2 (some .int) ∈ Ts) (hf : 1 ≤ R.frames) (hl : (st.map fun v => v.category).sum + 13 ≤ R.locals) (hc : k ≤ R.cells) (hs : j ≤ R.slots) (hd : decode cc pc = .ok (.invokestatic ix, 3)) (K : G p l e R s m args below meth c D A nL k j Q w lv (pc + 3) (.int (if y < x then y else x) :: st)) : G p l e R s m args below meth c D A nL k j Q w lv pc (.int y :: .int x :: st) :=
  fun H locs ls hP hD hS hv => va_mmin C.1 C.2.1 (C.2.2.1.trans hv.1.symm) C.2.2.2.1 (C.2.2.2.2.1 _ h1) (C.2.2.2.2.1 _ h2) (C.2.2.2.2.1 _ h3) (C.2.2.2.2.1 _ h4) hf hl hc hs hd (K H locs ls hP hD hS hv)
theorem g_abs {ix : Nat} {x : Int32} (C : gC p s m args meth c cc nL own Ts D TY A) (h1 : Cond.methodLink own ix Lib.Math.abs.name ∈ Ts) (h2 : Cond.static Lib.Math.abs.name ∈ Ts) (h3 : Cond.initialized "java/lang/Math" ∈ Ts) (h4 : Cond.code Lib.Math.abs.name Lib.Math.abs.code 1 (some .int) ∈ Ts) (hf : 1 ≤ R.frames) (hl : (st.map fun v => v.category).sum + 13 ≤ R.locals) (hc : k ≤ R.cells) (hs : j ≤ R.slots) (hd : decode cc pc = .ok (.invokestatic ix, 3)) (K : G p l e R s m args below meth c D A nL k j Q w lv (pc + 3) (.int (if 0 ≤ x then x else 0 - x) :: st)) : G p l e R s m args below meth c D A nL k j Q w lv pc (.int x :: st) :=
  fun H locs ls hP hD hS hv => va_mabs C.1 C.2.1 (C.2.2.1.trans hv.1.symm) C.2.2.2.1 (C.2.2.2.2.1 _ h1) (C.2.2.2.2.1 _ h2) (C.2.2.2.2.1 _ h3) (C.2.2.2.2.1 _ h4) hf hl hc hs hd (K H locs ls hP hD hS hv)
end GX
/-- the counts and the places that the book's numbers point at -/
def iA (σ : gS) (np nt no ni : Nat) : Prop := (σ.1 0 = nI np ∧ np ≤ 6) ∧ (σ.1 1 = nI nt ∧ nt ≤ 12) ∧ (σ.1 2 = nI no ∧ no ≤ 10) ∧ (σ.1 3 = nI ni ∧ ni ≤ 8) ∧ (∀ t, ∃ j, j < 6 ∧ σ.2 1 t = nI j) ∧ (∀ q, ∃ j, j ≤ 12 ∧ σ.2 4 q = nI j) ∧ (∀ q, ∃ j, j < 4 ∧ σ.2 8 q = nI j)
abbrev cl (x : Int32) : Nat := x.toNatClampNeg
theorem cl_nI {n : Nat} (h : n < 2 ^ 31) : cl (nI n) = n := nI_clamp h
def rowS (L : Nat → Int32) (r : Nat) : Nat → Int32 := isum (fun t => L (r * 12 + t))
def tubS (L : Nat → Int32) (t f : Nat) : Nat → Int32 := isum (fun i => L ((f + i) * 12 + t))
def mvL (L : Nat → Int32) (f t : Nat) (fl : Nat → Int32) : Nat → Nat → Int32
  | 0 => L
  | n + 1 => upd (upd (mvL L f t fl n) (f * 12 + n) (mvL L f t fl n (f * 12 + n) - fl n)) (t * 12 + n) (upd (mvL L f t fl n) (f * 12 + n) (mvL L f t fl n (f * 12 + n) - fl n) (t * 12 + n) + fl n)
def flw (L : Nat → Int32) (r : Nat) (g all : Int32) : Nat → Int32 := fun n => (rowS L r n + L (r * 12 + n)) * g / all - rowS L r n * g / all
theorem mvL_at (L : Nat → Int32) (f t : Nat) (fl : Nat → Int32) : ∀ (n m : Nat), n ≤ m → m < 12 → mvL L f t fl n (f * 12 + m) = L (f * 12 + m)
  | 0, m, _, _ => rfl
  | n + 1, m, h, h2 => by
    have h1 : f * 12 + m ≠ f * 12 + n := by omega
    have h3 : f * 12 + m ≠ t * 12 + n := by omega
    rw [mvL, upd, if_neg h3, upd, if_neg h1]
    exact mvL_at L f t fl n m (by omega) h2
def wzL (L : Nat → Int32) (r : Nat) : Nat → Nat → Int32
  | 0 => L
  | n + 1 => upd (upd (wzL L r n) (r * 12 + n) 0) (106 * 12 + n) (upd (wzL L r n) (r * 12 + n) 0 (106 * 12 + n) + L (r * 12 + n))
theorem wzL_at (L : Nat → Int32) (r : Nat) : ∀ (n m : Nat), n ≤ m → m < 12 → r < 106 → wzL L r n (r * 12 + m) = L (r * 12 + m)
  | 0, m, _, _, _ => rfl
  | n + 1, m, h, h2, h4 => by
    have h1 : r * 12 + m ≠ r * 12 + n := by omega
    have h3 : r * 12 + m ≠ 106 * 12 + n := by omega
    rw [wzL, upd, if_neg h3, upd, if_neg h1]
    exact wzL_at L r n m (by omega) h2 h4
def colT (σ : gS) (t ch : Nat) : Int32 := σ.2 0 (cl (σ.2 1 t) * 3 + ch)
def colR (σ : gS) (nt r ch : Nat) : Int32 := if rowS (σ.2 3) r nt = 0 then -1 else isum (fun t => σ.2 3 (r * 12 + t) * colT σ t ch) nt / rowS (σ.2 3) r nt
def gopN (σ : gS) (r : Nat) (k : Int32) : Nat → Int32
  | 0 => 0
  | n + 1 => if σ.2 1 n = k then gopN σ r k n + σ.2 3 (r * 12 + n) else gopN σ r k n
def mpr (g : Nat → Int32) : Nat → Int32 × Int32
  | 0 => (-1, 0)
  | n + 1 => if g n ≤ (mpr g n).2 then mpr g n else (nI n, g n)
def mixd (σ : gS) (a b : Nat) (q : Int32) (ch : Nat) : Int32 := (q * colT σ a ch + (4 - q) * colT σ b ch) / 4
def topR (σ : gS) (q : Nat) : Nat := 10 + q * 12 + (cl (σ.2 4 q) - 1)
def mpo (σ : gS) (np nt q : Nat) : Int32 := if σ.2 4 q = 0 then -1 else (mpr (fun k => gopN σ (topR σ q) (nI k) nt) np).1
def lko (σ : gS) (nt q ch : Nat) : Int32 := if σ.2 4 q = 0 then -1 else colR σ nt (topR σ q) ch
def alk (σ : gS) (np nt : Nat) (mn : Int32) : Nat → Int32 × Int32
  | 0 => (0, 0)
  | n + 1 => if ¬ σ.2 6 n ≤ 0 ∧ mpo σ np nt n = mn then ((alk σ np nt mn n).1 + σ.2 6 n, (alk σ np nt mn n).2 + 1) else alk σ np nt mn n
def avgA (σ : gS) (np nt ni q : Nat) : Int32 := if mpo σ np nt q = -1 then 0 else if (alk σ np nt (mpo σ np nt q) ni).2 = 0 then 0 else (alk σ np nt (mpo σ np nt q) ni).1 / (alk σ np nt (mpo σ np nt q) ni).2
def valA (σ : gS) (np nt ni q : Nat) : Int32 := if 0 < avgA σ np nt ni q - σ.2 5 q * (avgA σ np nt ni q / 20) then avgA σ np nt ni q - σ.2 5 q * (avgA σ np nt ni q / 20) else 0
def lentD (σ : gS) (d : Int32) (q : Nat) : Int32 := if σ.2 7 q < d then σ.2 7 q else d
def harm (σ : gS) (h : Nat) : Prop := ¬ (if 0 ≤ σ.2 10 h - 50 then σ.2 10 h - 50 else 0 - (σ.2 10 h - 50)) ≤ 10
def pfl (σ : gS) (d : Int32) (q : Nat) : gS :=
  sA (sA (if (if 0 ≤ σ.2 10 (cl (σ.2 8 q)) - 50 then σ.2 10 (cl (σ.2 8 q)) - 50 else 0 - (σ.2 10 (cl (σ.2 8 q)) - 50)) ≤ 10 then σ else sA σ 5 (upd (σ.2 5) q (σ.2 5 q + lentD σ d q))) 11 (upd (σ.2 11) (cl (σ.2 8 q)) (σ.2 11 (cl (σ.2 8 q)) + lentD σ d q * σ.2 9 q))) 7 (upd (σ.2 7) q (σ.2 7 q - lentD σ d q))
theorem i32_nle {x y : Int32} (h : x < y) : ¬ y ≤ x := by rw [i32_le]; rw [i32_lt] at h; omega
theorem i32_ge {x y : Int32} (h : ¬ x < y) : y ≤ x := by rw [i32_le]; rw [i32_lt] at h; omega
theorem i32_n1 {x g : Int32} (hg : 1 ≤ g) (h : ¬ x < g) : ¬ x < 1 := by
  rw [i32_lt] at h ⊢; rw [i32_le] at hg; omega
theorem i32_n0 {x g : Int32} (hg : 1 ≤ g) (h : ¬ x < g) : ¬ x = 0 := by
  intro e
  rw [e] at h
  exact h (by rw [i32_lt]; rw [i32_le] at hg; exact Int.lt_of_lt_of_le (by decide) hg)
theorem out_nat {x : Int32} {M : Nat} {lo hi : Int32} (hh : hi = nI M) (h0 : 0 ≤ lo.toInt ∧ M < 2 ^ 31) (h : ¬ out x lo hi) : ∃ a : Nat, (lo.toInt ≤ (a : Int) ∧ a ≤ M) ∧ x = nI a := by
  have h1 : ¬ x < lo := fun q => h (Or.inl q)
  have h2 : x ≤ hi := Classical.byContradiction fun q => h (Or.inr q)
  have h3 : ¬ x < 0 := by rw [i32_lt] at h1 ⊢; simp; omega
  obtain ⟨a, ha, rfl⟩ := nI_of h3
  refine ⟨a, ⟨?_, ?_⟩, rfl⟩
  · rw [i32_lt, nI_toInt ha] at h1; omega
  · rw [hh] at h2; exact (nI_leI ha h0.2).mp h2
theorem out_lo {x lo hi : Int32} (h : ¬ out x lo hi) : lo ≤ x := by
  have h1 : ¬ x < lo := fun q => h (Or.inl q)
  rw [i32_lt] at h1; rw [i32_le]; omega
