theorem fillF_at (F fl : Nat → Int32) : ∀ (n i : Nat), i < n → fillF F fl n i = fl i
  | 0, i, h => absurd h (Nat.not_lt_zero i)
  | n + 1, i, h => by
    by_cases e : i = n
    · rw [fillF, upd, if_pos e, e]
    · rw [fillF, upd, if_neg e]; exact fillF_at F fl n i (by omega)
theorem bst_le (F : Nat → Int32) : ∀ i, bst F i ≤ i
  | 0 => Nat.le_refl 0
  | i + 1 => by
    rw [bst]; split
    · exact Nat.le_succ_of_le (bst_le F i)
    · exact Nat.le_refl _
theorem p1_sc (τ : gS) (q k : Nat) : (p1 τ q).1 k = τ.1 k := by
  rw [p1]; split <;> rfl
theorem p1_ar (τ : gS) (q k : Nat) (h13 : k ≠ 13) (h7 : k ≠ 7) (h10 : k ≠ 10) (h9 : k ≠ 9) : (p1 τ q).2 k = τ.2 k := by
  rw [p1]; split
  · rfl
  · simp [sA, va_up, h13, h7, h10, h9]
theorem iM0_p1 {τ : gS} {np nt no ni : Nat} (h : iM0 τ np nt no ni) (q : Nat) : iM0 (p1 τ q) np nt no ni := by
  obtain ⟨h1, h2, h3, h4, h5, h6, h7⟩ := h
  refine ⟨by rw [p1_sc]; exact h1, by rw [p1_sc]; exact h2, by rw [p1_sc]; exact h3, by rw [p1_sc]; exact h4, by rw [p1_ar _ _ _ (by decide) (by decide) (by decide) (by decide)]; exact h5, by rw [p1_ar _ _ _ (by decide) (by decide) (by decide) (by decide)]; exact h6, fun x => ?_⟩
  by_cases c : τ.2 9 q = -1
  · rw [p1, if_pos c]; exact h7 x
  · rw [p1, if_neg c]
    show upd (τ.2 9) q _ x = -1 ∨ ∃ j, j < 4 ∧ upd (τ.2 9) q _ x = nI j
    by_cases e : x = q
    · rw [upd, if_pos e]
      split
      · exact h7 q
      · exact Or.inl rfl
    · rw [upd, if_neg e]; exact h7 x
theorem iM0_p1s {τ : gS} {np nt no ni : Nat} (h : iM0 τ np nt no ni) : ∀ k, iM0 (p1s τ k) np nt no ni
  | 0 => h
  | k + 1 => iM0_p1 (iM0_p1s h k) k
theorem iM0_S5 {τ : gS} {np nt no ni : Nat} (h : iM0 τ np nt no ni) (x : Int32) : iM0 (sS τ 5 x) np nt no ni := h
theorem iM0_S0 {τ : gS} {np nt no ni : Nat} (h : iM0 τ np nt no ni) (x : Int32) : iM0 (sS τ 0 x) np nt no ni := h
theorem iM0_pN {τ : gS} {np nt no ni : Nat} (h : iM0 τ np nt no ni) : ∀ k, iM0 (pN τ ni k) np nt no ni
  | 0 => h
  | k + 1 => iM0_p1s (iM0_S5 (iM0_pN h k) _) ni
theorem bI_nar (P : Prop) [Decidable P] : narrow .boolean (.int (bI P)) = .int (bI P) := by
  unfold bI; split <;> rfl
