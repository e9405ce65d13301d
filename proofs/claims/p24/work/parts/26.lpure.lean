/-! The relation of the book's state and the law's arrays. -/
def relV (σ τ : gS) : Prop :=
  (∀ t, t < 6 → τ.2 1 (3 * t) = σ.2 1 t) ∧
  (∀ q k t, q < 4 → k < 3 → t < 6 → grL τ (3 * q + k) t = σ.2 3 ((10 + q * 12 + k) * 12 + t)) ∧
  (∀ q, q < 4 → τ.2 5 (7 * q) = σ.2 4 q) ∧ (∀ q, q < 4 → τ.2 5 (7 * q + 1) = σ.2 5 q) ∧ (∀ q, q < 4 → τ.2 5 (7 * q + 2) = σ.2 6 q)
/-- layers, cracks and prices stay small -/
def smlV (σ : gS) (T : Nat) : Prop :=
  (∀ q, q < 4 → ∃ j, j ≤ 3 ∧ σ.2 4 q = nI j) ∧ (∀ q, q < 4 → ∃ j, j ≤ T ∧ σ.2 5 q = nI j) ∧ (∀ q, q < 4 → ∃ j, j ≤ 9000 ∧ σ.2 6 q = nI j)
/-- what a pot has, as the law sums it up -/
def potL (τ : gS) (x : Nat) : Nat → Int32 := isum (fun t => τ.2 2 (6 * x + t))
def potN (τ : gS) (x : Nat) : Nat → Nat
  | 0 => 0
  | n + 1 => potN τ x n + cl (τ.2 2 (6 * x + n))
def flQ (τ : gS) (x g n : Nat) : Nat := potN τ x n * g / potN τ x 6
def flN (τ : gS) (x g : Nat) : Nat → Int32 := fun n => nI (flQ τ x g (n + 1) - flQ τ x g n)
def potOK (τ : gS) (x : Nat) : Prop := ∀ t, t < 6 → ∃ j, j ≤ 1000 ∧ τ.2 2 (6 * x + t) = nI j
theorem potN_le {τ : gS} {x : Nat} (h : potOK τ x) : ∀ n, n ≤ 6 → potN τ x n ≤ 1000 * n
  | 0, _ => Nat.le_refl 0
  | n + 1, hn => by
    obtain ⟨j, hj, ej⟩ := h n hn
    have := potN_le h n (by omega)
    rw [potN, ej, cl_nI (by omega)]; omega
theorem potN_up {τ : gS} {x : Nat} : ∀ n m, n ≤ m → potN τ x n ≤ potN τ x m
  | n, 0, h => by rw [Nat.le_zero.mp h]; exact Nat.le_refl _
  | n, m + 1, h => by
    by_cases e : n = m + 1
    · rw [e]; exact Nat.le_refl _
    · exact Nat.le_trans (potN_up n m (by omega)) (Nat.le_add_right _ _)
theorem potL_N {τ : gS} {x : Nat} (h : potOK τ x) : ∀ n, n ≤ 6 → potL τ x n = nI (potN τ x n)
  | 0, _ => rfl
  | n + 1, hn => by
    obtain ⟨j, hj, ej⟩ := h n hn
    show potL τ x n + τ.2 2 (6 * x + n) = nI (potN τ x n + cl (τ.2 2 (6 * x + n)))
    rw [potL_N h n (by omega), ej, cl_nI (by omega), nI_add]
theorem flQ_up {τ : gS} {x g n : Nat} : flQ τ x g n ≤ flQ τ x g (n + 1) :=
  Nat.div_le_div_right (Nat.mul_le_mul_right _ (potN_up n (n + 1) (Nat.le_succ n)))
theorem flQ_le {τ : gS} {x g n : Nat} (hn : n ≤ 6) (h0 : 0 < potN τ x 6) : flQ τ x g n ≤ g := by
  refine Nat.div_le_of_le_mul ?_
  exact Nat.mul_le_mul_right _ (potN_up n 6 hn)
theorem flQ_in {τ : gS} {x g n k : Nat} (h0 : 0 < potN τ x 6) (h : (k + 1) * potN τ x 6 ≤ potN τ x n * g) : k + 1 ≤ flQ τ x g n :=
  (Nat.le_div_iff_mul_le h0).mpr h
theorem flQ_out {τ : gS} {x g n k : Nat} (h0 : 0 < potN τ x 6) (h : ¬ (k + 1) * potN τ x 6 ≤ potN τ x n * g) : flQ τ x g n ≤ k :=
  Nat.le_of_lt_succ ((Nat.div_lt_iff_lt_mul h0).mpr (Nat.lt_of_not_le h))
theorem i32_dec (x : Int32) : x + Int32.ofInt (-1) = x - 1 := by
  rw [Int32.sub_eq_add_neg]; rfl
theorem mul_lt31 {a b A B : Nat} (ha : a ≤ A) (hb : b ≤ B) (h : A * B < 2 ^ 31) : a * b < 2 ^ 31 := Nat.lt_of_le_of_lt (Nat.mul_le_mul ha hb) h
