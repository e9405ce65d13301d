theorem le_n0 {x g : Int32} (hg : 1 ≤ g) (h : g ≤ x) : ¬ x = 0 := by
  intro e
  rw [e, i32_le] at h
  rw [i32_le] at hg
  exact absurd (Int.le_trans hg h) (by decide)
def ml0 (τ : gS) (q : Nat) (h d : Int32) : gS := sA (sA (sS τ 0 0) 9 (upd (τ.2 9) q h)) 10 (upd (τ.2 10) q d)
def m_lend2 (τ : gS) (nt ni q : Nat) (h d : Int32) : gS := sA (sA (ml0 τ q h d) 15 (valF (ml0 τ q h d) nt ni q)) 11 (upd (τ.2 11) q (valM (ml0 τ q h d) nt ni q / 100 + 1))
def m_sell2 (τ : gS) (nt ni q : Nat) (x : Int32) : gS := sA (m_sell0 τ q x) 15 (valF (m_sell0 τ q x) nt ni q)
def sm_of2 (τ : gS) (nt ni q v : Nat) : gS := if v = 2 then sA (sS τ 0 0) 15 (valF (sS τ 0 0) nt ni q) else if v = 3 then sA (sS τ 0 0) 15 (mnF τ nt (τ.2 15) q) else sS τ 0 0
theorem iM0_lend {τ : gS} {np nt no ni : Nat} (h : iM0 τ np nt no ni) (q : Nat) {j : Nat} (hj : j < 4) (f : Nat → Int32) : iM0 (sA (sA (sS τ 0 0) 9 (upd (τ.2 9) q (nI j))) 10 f) np nt no ni := by
  obtain ⟨h1, h2, h3, h4, h5, h6, h7⟩ := h
  refine ⟨h1, h2, h3, h4, h5, h6, fun x => ?_⟩
  show upd (τ.2 9) q (nI j) x = -1 ∨ ∃ j', j' < 4 ∧ upd (τ.2 9) q (nI j) x = nI j'
  by_cases e : x = q
  · exact Or.inr ⟨j, hj, by rw [upd, if_pos e]⟩
  · rw [upd, if_neg e]; exact h7 x
