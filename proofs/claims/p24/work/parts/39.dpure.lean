/-! A day in the law's arrays. -/
def dOK (τ : gS) : Prop := ∀ q, q < 4 → ∃ j, j ≤ 4 ∧ τ.2 5 (7 * q + 3) = nI j
def dayF (τ : gS) (i a : Nat) : gS := sA (sA τ 6 (upd (τ.2 6) (4 + a) (τ.2 6 (4 + a) + τ.2 5 (7 * i + 5)))) 5 (upd (upd (upd (τ.2 5) (7 * i + 1) (τ.2 5 (7 * i + 1) + (if τ.2 6 a < 40 ∨ ¬ τ.2 6 a ≤ 60 then 1 else 0))) (7 * i + 4) (τ.2 5 (7 * i + 4) - 1)) (7 * i + 3) (if ¬ τ.2 5 (7 * i + 4) - 1 ≤ 0 then nI (a + 1) else 0))
def day1 (τ : gS) (i : Nat) : gS := if τ.2 5 (7 * i + 3) = 0 then τ else dayF τ i (cl (τ.2 5 (7 * i + 3)) - 1)
def dayS (τ : gS) : Nat → gS
  | 0 => τ
  | k + 1 => day1 (dayS τ k) k
theorem day_no {τ : gS} {i : Nat} (h : (dayS τ i).2 5 (7 * i + 3) = 0) : dayS τ (i + 1) = dayS τ i := by
  rw [dayS, day1, if_pos h]
theorem day_yes {τ : gS} {i a : Nat} (ha : a < 4) (h : (dayS τ i).2 5 (7 * i + 3) = nI (a + 1)) : dayS τ (i + 1) = dayF (dayS τ i) i a := by
  rw [dayS, day1, if_neg (by rw [h]; exact nI_ne0 (by omega) (by omega)), h, cl_nI (by omega)]; rfl
theorem dOK_1 {τ : gS} (h : dOK τ) {i : Nat} (hi : i < 4) : dOK (day1 τ i) := by
  obtain ⟨j, hj, ej⟩ := h i hi
  by_cases e0 : τ.2 5 (7 * i + 3) = 0
  · rw [day1, if_pos e0]; exact h
  · rw [day1, if_neg e0]
    intro q hq
    have hj0 : j ≠ 0 := fun z => e0 (by rw [ej, z]; rfl)
    rw [ej, cl_nI (by omega), dayF]
    show ∃ j', j' ≤ 4 ∧ upd (upd (upd (τ.2 5) (7 * i + 1) _) (7 * i + 4) _) (7 * i + 3) _ (7 * q + 3) = nI j'
    by_cases e : q = i
    · subst e
      rw [upd, if_pos rfl]
      split
      · exact ⟨j - 1 + 1, by omega, rfl⟩
      · exact ⟨0, by omega, rfl⟩
    · rw [upd, if_neg (by omega), upd, if_neg (by omega), upd, if_neg (by omega)]
      exact h q hq
theorem dOK_S {τ : gS} (h : dOK τ) : ∀ i, i ≤ 4 → dOK (dayS τ i)
  | 0, _ => h
  | i + 1, hi => dOK_1 (dOK_S h i (by omega)) (by omega)
