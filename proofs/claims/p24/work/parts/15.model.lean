/-! What the reference's methods answer, as functions of its state. -/
def iM0 (τ : gS) (np nt no ni : Nat) : Prop := (τ.1 1 = nI np ∧ np ≤ 6) ∧ (τ.1 2 = nI nt ∧ nt ≤ 12) ∧ (τ.1 3 = nI no ∧ no ≤ 10) ∧ (τ.1 4 = nI ni ∧ ni ≤ 8) ∧ (∀ t, ∃ j, j < 6 ∧ τ.2 1 t = nI j) ∧ (∀ q, ∃ j, j ≤ 12 ∧ τ.2 5 q = nI j) ∧ (∀ q, τ.2 9 q = -1 ∨ ∃ j, j < 4 ∧ τ.2 9 q = nI j)
def mS : Nat → gS → gS → gS
  | 0, _, b => b
  | k + 1, τ, _ => sS τ 0 (nI (k + 1))
def mR : Nat → Int32 → Int32
  | 0, r => r
  | _ + 1, _ => 0
theorem bI_congr {P P' : Prop} [Decidable P] [Decidable P'] (h : P ↔ P') : bI P = bI P' := by
  unfold bI; by_cases q : P
  · rw [if_pos q, if_pos (h.mp q)]
  · rw [if_neg q, if_neg (fun z => q (h.mpr z))]
theorem in_bad {x : Int32} {n : Nat} (hn : n ≤ 2000) : ¬ out x 0 (nI n - 1) ↔ ¬ bad x (nI n) := by
  have e : (nI n - 1 : Int32).toInt = (n : Int) - 1 := by
    have := pk_sub_toInt (a := n) (b := 1) (by omega) (by decide)
    exact this
  have e2 : (nI n).toInt = n := nI_toInt (by omega)
  constructor
  · rintro h (q | q)
    · exact h (Or.inl q)
    · refine h (Or.inr fun z => q ?_)
      rw [i32_le, e] at z; rw [i32_lt, e2]; omega
  · rintro h (q | q)
    · exact h (Or.inl q)
    · refine h (Or.inr fun z => q ?_)
      rw [i32_lt, e2] at z; rw [i32_le, e]; omega
def potS (P : Nat → Int32) (p : Nat) : Nat → Int32 := isum (fun t => P (12 * p + t))
def flM (P : Nat → Int32) (p : Nat) (g : Int32) : Nat → Int32 := fun n => (potS P p n + P (12 * p + n)) * g / potS P p 12 - potS P p n * g / potS P p 12
def fillF (F fl : Nat → Int32) : Nat → Nat → Int32
  | 0 => F
  | n + 1 => upd (fillF F fl n) n (fl n)
def subF (P F : Nat → Int32) (b : Nat) : Nat → Nat → Int32
  | 0 => P
  | n + 1 => upd (subF P F b n) (b + n) (subF P F b n (b + n) - F n)
def addF (P F : Nat → Int32) (b : Nat) : Nat → Nat → Int32
  | 0 => P
  | n + 1 => upd (addF P F b n) (b + n) (addF P F b n (b + n) + F n)
def setF (P F : Nat → Int32) (b : Nat) : Nat → Nat → Int32
  | 0 => P
  | n + 1 => upd (setF P F b n) (b + n) (F n)
def zerB (P : Nat → Int32) (b : Nat) : Nat → Nat → Int32
  | 0 => P
  | n + 1 => upd (zerB P b n) (b + n) 0
def wstB (W P : Nat → Int32) (b : Nat) : Nat → Nat → Int32
  | 0 => W
  | n + 1 => upd (wstB W P b n) n (wstB W P b n n + zerB P b n (b + n))
def sumB (s : Int32) (P : Nat → Int32) (b : Nat) : Nat → Int32
  | 0 => s
  | n + 1 => sumB s P b n + zerB P b n (b + n)
def flwF (τ : gS) (p : Nat) (g : Int32) : Nat → Int32 := fillF (τ.2 14) (flM (τ.2 4) p g) 12
def flwS (τ : gS) (p : Nat) (g : Int32) : gS := sA (sA τ 14 (flwF τ p g)) 4 (subF (τ.2 4) (flwF τ p g) (12 * p) 12)
def clM (W P : Nat → Int32) (q lc : Nat) : Nat → (Nat → Int32) × (Nat → Int32) × Int32
  | 0 => (W, P, 0)
  | k + 1 => (wstB (clM W P q lc k).1 (clM W P q lc k).2.1 (12 * (12 * q + (lc - k - 1))) 12, zerB (clM W P q lc k).2.1 (12 * (12 * q + (lc - k - 1))) 12, sumB (clM W P q lc k).2.2 (clM W P q lc k).2.1 (12 * (12 * q + (lc - k - 1))) 12)
def smF (P PT : Nat → Int32) (b : Nat) : Nat → Nat → Int32
  | 0 => fun _ => 0
  | n + 1 => upd (smF P PT b n) (cl (PT n)) (smF P PT b n (cl (PT n)) + P (b + n))
def bst (F : Nat → Int32) : Nat → Nat
  | 0 => 0
  | i + 1 => if F (i + 1) ≤ F (bst F i) then bst F i else i + 1
def topB (τ : gS) (q : Nat) : Nat := 12 * (12 * q + (cl (τ.2 5 q) - 1))
def mnF (τ : gS) (nt : Nat) (f : Nat → Int32) (q : Nat) : Nat → Int32 := if τ.2 5 q = 0 then f else smF (τ.2 6) (τ.2 1) (topB τ q) nt
def mnM (τ : gS) (nt q : Nat) : Int32 := if τ.2 5 q = 0 then -1 else nI (bst (smF (τ.2 6) (τ.2 1) (topB τ q) nt) 5)
def colM (τ : gS) (t ch : Nat) : Int32 := τ.2 0 (3 * cl (τ.2 1 t) + ch)
def lkM (τ : gS) (nt q ch : Nat) : Int32 := if τ.2 5 q = 0 then -1 else isum (fun t => τ.2 6 (topB τ q + t) * colM τ t ch) nt / isum (fun t => τ.2 6 (topB τ q + t)) nt
def vsF (τ : gS) (nt : Nat) (its : Int32) (f : Nat → Int32) : Nat → Nat → Int32
  | 0 => f
  | n + 1 => if its = -1 ∨ τ.2 8 n ≤ 0 then vsF τ nt its f n else mnF τ nt (vsF τ nt its f n) n
def vlP (τ : gS) (nt : Nat) (its : Int32) : Nat → Int32 × Int32
  | 0 => (0, 0)
  | n + 1 => if ¬ (its = -1 ∨ τ.2 8 n ≤ 0) ∧ mnM τ nt n = its then ((vlP τ nt its n).1 + τ.2 8 n, (vlP τ nt its n).2 + 1) else vlP τ nt its n
def meanM (τ : gS) (nt ni q : Nat) : Int32 := if (vlP τ nt (mnM τ nt q) ni).2 = 0 then 0 else (vlP τ nt (mnM τ nt q) ni).1 / (vlP τ nt (mnM τ nt q) ni).2
def wrtM (τ : gS) (nt ni q : Nat) : Int32 := meanM τ nt ni q - τ.2 7 q * (meanM τ nt ni q / 20)
def valM (τ : gS) (nt ni q : Nat) : Int32 := if 0 ≤ wrtM τ nt ni q then wrtM τ nt ni q else 0
def valF (τ : gS) (nt ni q : Nat) : Nat → Int32 := vsF τ nt (mnM τ nt q) (mnF τ nt (τ.2 15) q) ni
def p1 (τ : gS) (q : Nat) : gS := if τ.2 9 q = -1 then τ else
  sA (sA (sA (sA τ 13 (upd (τ.2 13) (cl (τ.2 9 q)) (τ.2 13 (cl (τ.2 9 q)) + τ.2 11 q))) 7 (upd (τ.2 7) q (τ.2 7 q + (if ¬ out (τ.2 12 (cl (τ.2 9 q))) 40 60 then 0 else 1)))) 10 (upd (τ.2 10) q (τ.2 10 q - 1))) 9 (upd (τ.2 9) q (if ¬ τ.2 10 q - 1 = 0 then τ.2 9 q else -1))
def p1s (τ : gS) : Nat → gS
  | 0 => τ
  | k + 1 => p1 (p1s τ k) k
def pN (τ : gS) (ni : Nat) : Nat → gS
  | 0 => τ
  | k + 1 => p1s (sS (pN τ ni k) 5 ((pN τ ni k).1 5 + 1)) ni
def farM (τ : gS) (a b : Nat) (q : Int32) (ch : Nat) (x : Int32) : Int32 := ((q * colM τ a ch + (4 - q) * colM τ b ch) / 4 - x) * ((q * colM τ a ch + (4 - q) * colM τ b ch) / 4 - x)
def rdM (τ : gS) (a b q : Nat) (r g bb : Int32) : Int32 := farM τ a b (nI q) 0 r + farM τ a b (nI q) 1 g + farM τ a b (nI q) 2 bb
def rPM (τ : gS) (r g bb : Int32) (a b : Nat) (s : Int32 × Int32) : Nat → Int32 × Int32
  | 0 => s
  | q + 1 => rstep (rdM τ a b q r g bb) (nI (1000 * a + 10 * b + q)) (rPM τ r g bb a b s q)
def rBM (τ : gS) (r g bb : Int32) (a : Nat) (s : Int32 × Int32) : Nat → Int32 × Int32
  | 0 => s
  | k + 1 => if τ.2 2 a ≤ 0 ∨ τ.2 2 (a + k) ≤ 0 then rBM τ r g bb a s k else rPM τ r g bb a (a + k) (rBM τ r g bb a s k) 5
def rAM (τ : gS) (r g bb : Int32) (nt : Nat) : Nat → Int32 × Int32
  | 0 => (-1, 0)
  | i + 1 => rBM τ r g bb i (rAM τ r g bb nt i) (nt - i)
/-! the calls: thrown, the answer, the next state -/
def tm_pigment (np : Nat) (r g b : Int32) : Nat := if out r 0 255 ∨ out g 0 255 ∨ out b 0 255 then 1 else if nI np = 6 then 2 else 0
def m_pigment (τ : gS) (np : Nat) (r g b : Int32) : gS := sS (sA (sS τ 0 0) 0 (upd (upd (upd (τ.2 0) (3 * np) r) (3 * np + 1) g) (3 * np + 2) b)) 1 (nI (np + 1))
def tm_tube (np nt : Nat) (x g : Int32) : Nat := if bad x (nI np) then 1 else if out g 1 1000 then 2 else if nI nt = 12 then 3 else 0
def m_tube (τ : gS) (nt : Nat) (x g : Int32) : gS := sS (sA (sA (sS τ 0 0) 1 (upd (τ.2 1) nt x)) 2 (upd (τ.2 2) nt g)) 2 (nI (nt + 1))
def tm_pot (no : Nat) : Nat := if nI no = 10 then 1 else 0
def tm_picture (ni : Nat) : Nat := if nI ni = 8 then 1 else 0
def tm_squeeze (τ : gS) (nt no : Nat) (x t g : Int32) : Nat := if bad x (nI no) ∨ bad t (nI nt) then 1 else if out g 1 1000 then 2 else if ¬ g ≤ τ.2 2 (cl t) then 3 else 0
def m_squeeze (τ : gS) (x t : Nat) (g : Int32) : gS := sA (sA (sS τ 0 0) 2 (upd (τ.2 2) t (τ.2 2 t - g))) 4 (upd (τ.2 4) (12 * x + t) (τ.2 4 (12 * x + t) + g))
def tm_pour (τ : gS) (no : Nat) (x y g : Int32) : Nat := if bad x (nI no) ∨ bad y (nI no) then 1 else if x = y ∨ out g 1 12000 then 2 else if ¬ g ≤ potS (τ.2 4) (cl x) 12 then 3 else 0
def m_pour (τ : gS) (x y : Nat) (g : Int32) : gS := sA (sA (sS τ 0 0) 14 (flwF τ x g)) 4 (addF (subF (τ.2 4) (flwF τ x g) (12 * x) 12) (flwF τ x g) (12 * y) 12)
def tm_scrape (no : Nat) (x : Int32) : Nat := if bad x (nI no) then 1 else 0
def m_scrape (τ : gS) (x : Nat) : gS := sA (sA (sS τ 0 0) 3 (wstB (τ.2 3) (τ.2 4) (12 * x) 12)) 4 (zerB (τ.2 4) (12 * x) 12)
def tm_paint (τ : gS) (no ni : Nat) (q x g : Int32) : Nat := if bad q (nI ni) ∨ bad x (nI no) then 1 else if out g 1 1000 then 2 else if ¬ τ.2 9 (cl q) = -1 ∨ τ.2 5 (cl q) = 12 ∨ ¬ g ≤ potS (τ.2 4) (cl x) 12 then 3 else 0
def m_paint (τ : gS) (q x : Nat) (g : Int32) : gS := sA (sA (sA (sA (sS τ 0 0) 14 (flwF τ x g)) 4 (subF (τ.2 4) (flwF τ x g) (12 * x) 12)) 6 (setF (τ.2 6) (flwF τ x g) (12 * (12 * q + cl (τ.2 5 q))) 12)) 5 (upd (τ.2 5) q (nI (cl (τ.2 5 q) + 1)))
def tm_clean (τ : gS) (ni : Nat) (q n : Int32) : Nat := if bad q (nI ni) then 1 else if out n 1 12 then 2 else if ¬ τ.2 9 (cl q) = -1 ∨ ¬ n ≤ τ.2 5 (cl q) then 3 else 0
def m_clean (τ : gS) (q n : Nat) : gS := sA (sA (sA (sS τ 0 0) 5 (upd (τ.2 5) q (nI (cl (τ.2 5 q) - n)))) 3 (clM (τ.2 3) (τ.2 6) q (cl (τ.2 5 q)) n).1) 6 (clM (τ.2 3) (τ.2 6) q (cl (τ.2 5 q)) n).2.1
def tm_damp (h d : Int32) : Nat := if bad h 4 then 1 else if out d 0 100 then 2 else 0
def tm_lend (τ : gS) (ni : Nat) (q h d : Int32) : Nat := if bad q (nI ni) ∨ bad h 4 then 1 else if out d 1 100 then 2 else if ¬ τ.2 9 (cl q) = -1 ∨ ¬ τ.2 7 (cl q) < 10 then 3 else 0
def m_lend (τ : gS) (nt ni q : Nat) (h d : Int32) : gS := sA (sA (sA (sA (sS τ 0 0) 9 (upd (τ.2 9) q h)) 10 (upd (τ.2 10) q d)) 15 (valF τ nt ni q)) 11 (upd (τ.2 11) q (valM τ nt ni q / 100 + 1))
def tm_sell (τ : gS) (ni : Nat) (q x : Int32) : Nat := if bad q (nI ni) then 1 else if out x 1 100000 then 2 else if ¬ τ.2 9 (cl q) = -1 ∨ τ.2 5 (cl q) = 0 then 3 else 0
def m_sell0 (τ : gS) (q : Nat) (x : Int32) : gS := sA (sS τ 0 0) 8 (upd (τ.2 8) q x)
def tm_pass (τ : gS) (d : Int32) : Nat := if out d 1 100 then 1 else if ¬ τ.1 5 + d ≤ 5000 then 2 else 0
def tm_left (nt : Nat) (t : Int32) : Nat := if bad t (nI nt) then 1 else 0
def tm_has (nt no : Nat) (x t : Int32) : Nat := if bad x (nI no) then 1 else if ¬ t = -1 ∧ bad t (nI nt) then 1 else 0
def rm_has (τ : gS) (x : Nat) (t : Int32) : Int32 := if t = -1 then potS (τ.2 4) x 12 else τ.2 4 (12 * x + cl t)
def tm_colour (no : Nat) (x v : Int32) : Nat := if bad x (nI no) then 1 else if out v 0 2 then 2 else 0
def rm_colour (τ : gS) (nt x ch : Nat) : Int32 := if potS (τ.2 4) x 12 = 0 then -1 else isum (fun t => τ.2 4 (12 * x + t) * colM τ t ch) nt / potS (τ.2 4) x 12
def tm_of (ni : Nat) (q v : Int32) : Nat := if bad q (nI ni) then 1 else if out v 0 8 then 2 else 0
def rm_of (τ : gS) (nt ni q v : Nat) : Int32 := if v = 0 then τ.2 5 q else if v = 1 then τ.2 7 q else if v = 2 then valM τ nt ni q else if v = 3 then mnM τ nt q else if v = 4 then τ.2 9 q else if v = 5 then τ.2 10 q else lkM τ nt q (v - 6)
def sm_of (τ : gS) (nt ni q v : Nat) : gS := if v = 2 then sA (sS τ 0 0) 15 (valF τ nt ni q) else if v = 3 then sA (sS τ 0 0) 15 (mnF τ nt (τ.2 15) q) else sS τ 0 0
def tm_layer (τ : gS) (nt ni : Nat) (q k t : Int32) : Nat := if bad q (nI ni) ∨ bad k (τ.2 5 (cl q)) ∨ bad t (nI nt) then 1 else 0
def tm_where (nt : Nat) (t v : Int32) : Nat := if bad t (nI nt) then 1 else if out v 0 3 then 2 else 0
def rm_where (τ : gS) (no t v : Nat) : Int32 := if v = 0 then τ.2 2 t else if v = 1 then isum (fun p => τ.2 4 (12 * p + t)) no else if v = 2 then isum (fun k => τ.2 6 (12 * k + t)) 96 else τ.2 3 t
def tm_recipe (r g b : Int32) : Nat := if out r 0 255 ∨ out g 0 255 ∨ out b 0 255 then 1 else 0
def tm_paid (h : Int32) : Nat := if bad h 4 then 1 else 0
section GA
variable {p : Program} {l : Launch} {e : Env} {R : Room} {s : State} {m : MethodId} {args : Array Value} {below : List Frame} {meth : Method} {c : Code}
variable {D : va_G} {A : Nat → Prop} {nL k j : Nat} {Q : State → Prop} {w : va_W} {lv : List (Nat × Value)} {pc : Nat} {st : List Value}
/-- an array of the world holds only what lies below its length -/
theorem g_arr {cA : ClassId} {n a : Nat} {f f' : Nat → Int32} (q0 : Nat) (w' : va_W) (ha : w[q0]? = some (a, .inl (cA, n, .inl f))) (hw' : w.set q0 (a, .inl (cA, n, .inl f')) = w') (hf : ∀ i, i < n → f i = f' i)
    (K : G p l e R s m args below meth c D A nL k j Q w' lv pc st) : G p l e R s m args below meth c D A nL k j Q w lv pc st := by
  intro H locs ls hP hD hS hl
  have hc : vp_cell cA (n, .inl f) = vp_cell cA (n, .inl f') := by
    rw [vp_cell_i, vp_cell_i]
    unfold arrV
    congr 1
    apply Array.ext
    · simp
    · intro i h1 h2
      simp at h1 h2
      simp [hf i h1]
  refine K H locs ls ?_ ?_ hS hl
  · rw [← hw']
    intro i q hi
    by_cases e : i = q0
    · subst e
      have hlt := (List.getElem?_eq_some_iff.mp ha).1
      rw [List.getElem?_set_self hlt] at hi
      cases hi
      have h1 := hP i _ ha
      show H[a]? = some (vp_cell cA (n, .inl f'))
      rw [← hc]; exact h1
    · rw [List.getElem?_set_ne (fun h => e h.symm)] at hi
      exact hP i q hi
  · rw [← hw']; exact hD.set ha
end GA
