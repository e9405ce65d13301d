/-! The book's calls: which exception (0 none, 1 index, 2 argument, 3 state), the answer, the next state. -/
def th_pigment (np : Nat) (r g b : Int32) : Nat := if out r 0 255 ∨ out g 0 255 ∨ out b 0 255 then 2 else if ¬ nI np < 6 then 3 else 0
def s_pigment (σ : gS) (np : Nat) (r g b : Int32) : gS := sS (sA σ 0 (upd (upd (upd (σ.2 0) (np * 3) r) (np * 3 + 1) g) (np * 3 + 2) b)) 0 (nI (np + 1))
def th_tube (np nt : Nat) (x g : Int32) : Nat := if bad x (nI np) then 1 else if out g 1 1000 then 2 else if ¬ nI nt < 12 then 3 else 0
def s_tube (σ : gS) (nt : Nat) (x g : Int32) : gS := sS (sA (sA σ 1 (upd (σ.2 1) nt x)) 2 (upd (σ.2 2) nt g)) 1 (nI (nt + 1))
def th_pot (no : Nat) : Nat := if ¬ nI no < 10 then 3 else 0
def th_picture (ni : Nat) : Nat := if ¬ nI ni < 8 then 3 else 0
def th_squeeze (σ : gS) (nt no : Nat) (x t g : Int32) : Nat := if bad x (nI no) ∨ bad t (nI nt) then 1 else if out g 1 1000 then 2 else if ¬ g ≤ σ.2 2 (cl t) then 3 else 0
def s_squeeze (σ : gS) (x t : Nat) (g : Int32) : gS := sA (sA σ 2 (upd (σ.2 2) t (σ.2 2 t - g))) 3 (upd (σ.2 3) (x * 12 + t) (σ.2 3 (x * 12 + t) + g))
def th_pour (σ : gS) (nt no : Nat) (x y g : Int32) : Nat := if bad x (nI no) ∨ bad y (nI no) then 1 else if x = y ∨ out g 1 12000 then 2 else if rowS (σ.2 3) (cl x) nt < g then 3 else 0
def mvS (σ : gS) (nt f t : Nat) (g : Int32) : Nat → Int32 := mvL (σ.2 3) f t (flw (σ.2 3) f g (rowS (σ.2 3) f nt)) nt
def th_scrape (no : Nat) (x : Int32) : Nat := if bad x (nI no) then 1 else 0
def th_paint (σ : gS) (nt no ni : Nat) (q x g : Int32) : Nat := if bad q (nI ni) ∨ bad x (nI no) then 1 else if out g 1 1000 then 2 else if ¬ σ.2 7 (cl q) ≤ 0 ∨ ¬ σ.2 4 (cl q) < 12 ∨ rowS (σ.2 3) (cl x) nt < g then 3 else 0
def s_paint (σ : gS) (nt q x : Nat) (g : Int32) : gS := sA (sA σ 3 (mvS σ nt x (10 + q * 12 + cl (σ.2 4 q)) g)) 4 (upd (σ.2 4) q (nI (cl (σ.2 4 q) + 1)))
def th_clean (σ : gS) (ni : Nat) (q n : Int32) : Nat := if bad q (nI ni) then 1 else if out n 1 12 then 2 else if ¬ σ.2 7 (cl q) ≤ 0 ∨ ¬ n ≤ σ.2 4 (cl q) then 3 else 0
def clL (L : Nat → Int32) (nt q lc : Nat) : Nat → Nat → Int32
  | 0 => L
  | k + 1 => wzL (clL L nt q lc k) (10 + q * 12 + (lc - k - 1)) nt
def clS (L : Nat → Int32) (nt q lc : Nat) : Nat → Int32
  | 0 => 0
  | k + 1 => clS L nt q lc k + rowS (clL L nt q lc k) (10 + q * 12 + (lc - k - 1)) nt
def s_clean (σ : gS) (nt q n : Nat) : gS := sA (sA σ 3 (clL (σ.2 3) nt q (cl (σ.2 4 q)) n)) 4 (upd (σ.2 4) q (nI (cl (σ.2 4 q) - n)))
def th_damp (h d : Int32) : Nat := if bad h 4 then 1 else if out d 0 100 then 2 else 0
def th_lend (σ : gS) (ni : Nat) (q h d : Int32) : Nat := if bad q (nI ni) ∨ bad h 4 then 1 else if out d 1 100 then 2 else if ¬ σ.2 7 (cl q) ≤ 0 ∨ ¬ σ.2 5 (cl q) < 10 then 3 else 0
def s_lend (σ : gS) (np nt ni q h : Nat) (d : Int32) : gS := sA (sA (sA σ 9 (upd (σ.2 9) q (valA σ np nt ni q / 100 + 1))) 8 (upd (σ.2 8) q (nI h))) 7 (upd (σ.2 7) q d)
def th_sell (σ : gS) (ni : Nat) (q x : Int32) : Nat := if bad q (nI ni) then 1 else if out x 1 100000 then 2 else if ¬ σ.2 7 (cl q) ≤ 0 ∨ σ.2 4 (cl q) = 0 then 3 else 0
def s_sell (σ : gS) (q : Nat) (x : Int32) : gS := sA σ 6 (upd (σ.2 6) q x)
def th_pass (σ : gS) (d : Int32) : Nat := if out d 1 100 then 2 else if ¬ σ.1 4 + d ≤ 5000 then 3 else 0
def pfls (σ : gS) (d : Int32) : Nat → gS
  | 0 => σ
  | k + 1 => pfl (pfls σ d k) d k
def th_left (nt : Nat) (t : Int32) : Nat := if bad t (nI nt) then 1 else 0
def th_has (nt no : Nat) (x t : Int32) : Nat := if bad x (nI no) then 1 else if ¬ t = -1 ∧ bad t (nI nt) then 1 else 0
def r_has (σ : gS) (nt x : Nat) (t : Int32) : Int32 := if t = -1 then rowS (σ.2 3) x nt else σ.2 3 (x * 12 + cl t)
def th_colour (no : Nat) (x v : Int32) : Nat := if bad x (nI no) then 1 else if out v 0 2 then 2 else 0
def th_of (ni : Nat) (q v : Int32) : Nat := if bad q (nI ni) then 1 else if out v 0 8 then 2 else 0
def r_of (σ : gS) (np nt ni q v : Nat) : Int32 := if v = 0 then σ.2 4 q else if v = 1 then σ.2 5 q else if v = 2 then valA σ np nt ni q else if v = 3 then mpo σ np nt q else if v = 4 then (if ¬ σ.2 7 q ≤ 0 then σ.2 8 q else -1) else if v = 5 then σ.2 7 q else lko σ nt q (v - 6)
def th_layer (σ : gS) (nt ni : Nat) (q k t : Int32) : Nat := if bad q (nI ni) ∨ bad k (σ.2 4 (cl q)) ∨ bad t (nI nt) then 1 else 0
def th_where (nt : Nat) (t v : Int32) : Nat := if bad t (nI nt) then 1 else if out v 0 3 then 2 else 0
def r_where (σ : gS) (t v : Nat) : Int32 := if v = 0 then σ.2 2 t else if v = 1 then tubS (σ.2 3) t 0 10 else if v = 2 then tubS (σ.2 3) t 10 96 else tubS (σ.2 3) t 106 1
def th_recipe (r g b : Int32) : Nat := if out r 0 255 ∨ out g 0 255 ∨ out b 0 255 then 2 else 0
def th_paid (h : Int32) : Nat := if bad h 4 then 1 else 0
theorem upd_id {f : Nat → Int32} {k : Nat} {x : Int32} (h : f k = x) : upd f k x = f := by
  funext j; by_cases e : j = k
  · rw [upd, if_pos e, e, h]
  · rw [upd, if_neg e]
theorem upd_two (f : Nat → Int32) (k : Nat) (x y : Int32) : upd (upd f k x) k y = upd f k y := by
  funext j; by_cases e : j = k
  · rw [upd, if_pos e, upd, if_pos e]
  · rw [upd, if_neg e, upd, if_neg e, upd, if_neg e]
theorem iA_LC {σ : gS} {np nt no ni : Nat} (h : iA σ np nt no ni) (f : Nat → Int32) (q : Nat) {j : Nat} (hj : j ≤ 12) : iA (sA (sA σ 3 f) 4 (upd (σ.2 4) q (nI j))) np nt no ni := by
  obtain ⟨h1, h2, h3, h4, h5, h6, h7⟩ := h
  refine ⟨h1, h2, h3, h4, h5, fun p => ?_, h7⟩
  show ∃ j', j' ≤ 12 ∧ upd (σ.2 4) q (nI j) p = nI j'
  by_cases e : p = q
  · exact ⟨j, hj, by rw [upd, if_pos e]⟩
  · rw [upd, if_neg e]; exact h6 p
theorem pfl_1 (σ : gS) (d : Int32) (q : Nat) : (pfl σ d q).1 = σ.1 := by
  rw [pfl]
  repeat' split
  all_goals rfl
theorem pfl_2 (σ : gS) (d : Int32) (q k : Nat) (h5 : k ≠ 5) (h7 : k ≠ 7) (h11 : k ≠ 11) : (pfl σ d q).2 k = σ.2 k := by
  rw [pfl]
  repeat' split
  all_goals simp [sA, va_up, h5, h7, h11]
theorem iA_pfl {σ : gS} {np nt no ni : Nat} (h : iA σ np nt no ni) (d : Int32) (q : Nat) : iA (pfl σ d q) np nt no ni := by
  obtain ⟨h1, h2, h3, h4, h5, h6, h7⟩ := h
  unfold iA
  rw [pfl_1, pfl_2 _ _ _ _ (by decide) (by decide) (by decide), pfl_2 _ _ _ _ (by decide) (by decide) (by decide), pfl_2 _ _ _ _ (by decide) (by decide) (by decide)]
  exact ⟨h1, h2, h3, h4, h5, h6, h7⟩
theorem iA_pfls {σ : gS} {np nt no ni : Nat} (h : iA σ np nt no ni) (d : Int32) : ∀ k, iA (pfls σ d k) np nt no ni
  | 0 => h
  | k + 1 => iA_pfl (iA_pfls h d k) d k
theorem pfls_1 (σ : gS) (d : Int32) : ∀ k, (pfls σ d k).1 = σ.1
  | 0 => rfl
  | k + 1 => (pfl_1 _ _ _).trans (pfls_1 σ d k)
def rstep (d key : Int32) (s : Int32 × Int32) : Int32 × Int32 := if s.1 = -1 ∨ ¬ s.2 ≤ d then (key, d) else s
def rdist (σ : gS) (a b q : Nat) (r g bb : Int32) : Int32 := (mixd σ a b (nI q) 0 - r) * (mixd σ a b (nI q) 0 - r) + (mixd σ a b (nI q) 1 - g) * (mixd σ a b (nI q) 1 - g) + (mixd σ a b (nI q) 2 - bb) * (mixd σ a b (nI q) 2 - bb)
def rP (σ : gS) (r g bb : Int32) (a b : Nat) (s : Int32 × Int32) : Nat → Int32 × Int32
  | 0 => s
  | q + 1 => rstep (rdist σ a b q r g bb) (nI (1000 * a + 10 * b + q)) (rP σ r g bb a b s q)
def rB (σ : gS) (r g bb : Int32) (a : Nat) (s : Int32 × Int32) : Nat → Int32 × Int32
  | 0 => s
  | k + 1 => if σ.2 2 a = 0 ∨ σ.2 2 (a + k) = 0 then rB σ r g bb a s k else rP σ r g bb a (a + k) (rB σ r g bb a s k) 5
def rA (σ : gS) (r g bb : Int32) (nt : Nat) : Nat → Int32 × Int32
  | 0 => (-1, 0)
  | i + 1 => rB σ r g bb i (rA σ r g bb nt i) (nt - i)
