/-! The book's state and the reference's: what they share. -/
def zsum (f : Nat → Int) : Nat → Int
  | 0 => 0
  | n + 1 => zsum f n + f n
/-- the book's numbers stay small and in their places -/
def nInv (σ : gS) (nt no : Nat) : Prop :=
  (∀ t, t < 12 → 0 ≤ (σ.2 2 t).toInt ∧ (σ.2 2 t).toInt + zsum (fun p => (σ.2 3 (p * 12 + t)).toInt) 10 ≤ 1000) ∧
  (∀ p t, p < 10 → t < 12 → 0 ≤ (σ.2 3 (p * 12 + t)).toInt) ∧
  (∀ p t, p < 10 → t < 12 → nt ≤ t ∨ no ≤ p → σ.2 3 (p * 12 + t) = 0) ∧
  (∀ q k t, q < 8 → k < 12 → t < 12 → 0 ≤ (σ.2 3 ((10 + q * 12 + k) * 12 + t)).toInt ∧ (σ.2 3 ((10 + q * 12 + k) * 12 + t)).toInt ≤ 1000) ∧
  (∀ q k t, q < 8 → k < 12 → t < 12 → nt ≤ t ∨ cl (σ.2 4 q) ≤ k → σ.2 3 ((10 + q * 12 + k) * 12 + t) = 0) ∧
  (∀ q k, q < 8 → k < cl (σ.2 4 q) → 1 ≤ zsum (fun t => (σ.2 3 ((10 + q * 12 + k) * 12 + t)).toInt) 12) ∧
  (∀ h, h < 4 → 0 ≤ (σ.2 10 h).toInt ∧ (σ.2 10 h).toInt ≤ 100) ∧
  (∀ q, q < 8 → 0 ≤ (σ.2 7 q).toInt ∧ (σ.2 7 q).toInt ≤ 100) ∧
  (∀ t, t < nt → (σ.2 1 t).toInt < (σ.1 0).toInt)
/-- the same numbers, in the places of each -/
def rel (σ τ : gS) : Prop :=
  τ.1 5 = σ.1 4 ∧ (∀ j, j < 18 → τ.2 0 j = σ.2 0 j) ∧ (∀ t, t < 12 → τ.2 1 t = σ.2 1 t) ∧ (∀ t, t < 12 → τ.2 2 t = σ.2 2 t) ∧ (∀ t, t < 12 → τ.2 3 t = σ.2 3 (106 * 12 + t)) ∧
  (∀ p t, p < 10 → t < 12 → τ.2 4 (12 * p + t) = σ.2 3 (p * 12 + t)) ∧ (∀ q, q < 8 → τ.2 5 q = σ.2 4 q) ∧
  (∀ q k t, q < 8 → k < 12 → t < 12 → τ.2 6 (12 * (12 * q + k) + t) = σ.2 3 ((10 + q * 12 + k) * 12 + t)) ∧
  (∀ q, q < 8 → τ.2 7 q = σ.2 5 q) ∧ (∀ q, q < 8 → τ.2 8 q = σ.2 6 q) ∧ (∀ q, q < 8 → τ.2 9 q = if ¬ σ.2 7 q ≤ 0 then σ.2 8 q else -1) ∧
  (∀ q, q < 8 → τ.2 10 q = σ.2 7 q) ∧ (∀ q, q < 8 → τ.2 11 q = σ.2 9 q) ∧ (∀ h, h < 4 → τ.2 12 h = σ.2 10 h) ∧ (∀ h, h < 4 → τ.2 13 h = σ.2 11 h)
def RR (σ τ : gS) (np nt no ni : Nat) : Prop := iA σ np nt no ni ∧ iM0 τ np nt no ni ∧ nInv σ nt no ∧ rel σ τ
def RE (σ τ : gS) : Prop := ∃ np nt no ni, RR σ τ np nt no ni
/-- a call answers alike on both sides -/
def opOK (K Km : Nat) (cd : Nat → Nat) (rb rm : Int32) (σ' τ' : gS) : Prop := (K = 0 ∧ Km = 0 ∧ rb = rm ∧ RE σ' τ' ∧ τ'.1 0 = 0) ∨ (K ≠ 0 ∧ Km ≠ 0 ∧ Km = cd K)
theorem RR.S0 {σ τ : gS} {np nt no ni : Nat} (h : RR σ τ np nt no ni) (x : Int32) : RR σ (sS τ 0 x) np nt no ni := h
theorem opOK.next {K Km : Nat} {cd : Nat → Nat} {rb rm : Int32} {σ σ' τ τ' : gS} {np nt no ni : Nat} (hR : RR σ τ np nt no ni) (h : opOK K Km cd rb rm σ' τ') : RE (kS K σ σ') (mS Km τ τ') ∧ (mS Km τ τ').1 0 = nI Km := by
  rcases h with ⟨rfl, rfl, -, h, h0⟩ | ⟨h1, h2, -⟩
  · exact ⟨h, h0⟩
  · obtain ⟨k, rfl⟩ := Nat.exists_eq_succ_of_ne_zero h1
    obtain ⟨k2, rfl⟩ := Nat.exists_eq_succ_of_ne_zero h2
    exact ⟨⟨np, nt, no, ni, hR.S0 _⟩, rfl⟩
