/-! Helps for the calls' facts. -/
theorem opIf {c c' : Prop} [Decidable c] [Decidable c'] {k k' K K' : Nat} {cd : Nat → Nat} {rb rm : Int32} {σ' τ' : gS} (hc : c' ↔ c) (hk : k ≠ 0 ∧ k' ≠ 0 ∧ k' = cd k) (h : ¬ c → opOK K K' cd rb rm σ' τ') : opOK (if c then k else K) (if c' then k' else K') cd rb rm σ' τ' := by
  by_cases q : c
  · rw [if_pos q, if_pos (hc.mpr q)]; exact Or.inr hk
  · rw [if_neg q, if_neg (fun z => q (hc.mp z))]; exact h q
theorem ok0 {cd : Nat → Nat} {rb rm : Int32} {σ' τ' : gS} (h : rb = rm) (hE : RE σ' τ') (h0 : τ'.1 0 = 0) : opOK 0 0 cd rb rm σ' τ' := Or.inl ⟨rfl, rfl, h, hE, h0⟩
theorem full_iff {n N : Nat} (h : n ≤ N) (hN : N < 2 ^ 31) : nI n = nI N ↔ ¬ nI n < nI N := by
  rw [nI_eq (by omega) hN, nI_ltI (by omega) hN]; omega
theorem upd_cg {f g : Nat → Int32} {k i : Nat} {v v' : Int32} (h : i ≠ k → f i = g i) (hv : i = k → v = v') : upd f k v i = upd g k v' i := by
  by_cases e : i = k
  · rw [upd, upd, if_pos e, if_pos e, hv e]
  · rw [upd, upd, if_neg e, if_neg e, h e]
theorem upd_s {f : Nat → Int32} {k : Nat} {v : Int32} : upd f k v k = v := if_pos rfl
theorem upd_n {f : Nat → Int32} {k i : Nat} {v : Int32} (h : i ≠ k) : upd f k v i = f i := if_neg h
theorem upd_all {P : Nat → Int32 → Prop} {f : Nat → Int32} {k : Nat} {v : Int32} (i : Nat) (h : i ≠ k → P i (f i)) (hv : i = k → P i v) : P i (upd f k v i) := by
  by_cases e : i = k
  · rw [upd, if_pos e]; exact hv e
  · rw [upd, if_neg e]; exact h e
theorem nb_lt {x : Int32} {N : Nat} (hN : N < 2 ^ 31) (h : ¬ bad x (nI N)) : cl x < N ∧ x = nI (cl x) := by
  obtain ⟨a, ha, rfl⟩ := nb_of rfl hN h
  rw [cl_nI (by omega)]; exact ⟨ha, rfl⟩
theorem isum_cg {f g : Nat → Int32} : ∀ n, (∀ i, i < n → f i = g i) → isum f n = isum g n
  | 0, _ => rfl
  | n + 1, h => by rw [isum, isum, isum_cg n fun i hi => h i (by omega), h n (by omega)]
theorem isum_tail {f : Nat → Int32} (n : Nat) : ∀ k, (∀ i, n ≤ i → i < n + k → f i = 0) → isum f (n + k) = isum f n
  | 0, _ => rfl
  | k + 1, h => by rw [← Nat.add_assoc, isum, isum_tail n k fun i h1 h2 => h i h1 (by omega), h (n + k) (by omega) (by omega), Int32.add_zero]
theorem isum_to {f : Nat → Int32} {n m : Nat} (hnm : n ≤ m) (h : ∀ i, n ≤ i → i < m → f i = 0) : isum f m = isum f n := by
  have := isum_tail (f := f) n (m - n) fun i h1 h2 => h i h1 (by omega)
  rwa [Nat.add_sub_cancel' hnm] at this
/-- the shared numbers, one by one -/
theorem RR.pt {σ τ : gS} {np nt no ni : Nat} (h : RR σ τ np nt no ni) : np ≤ 6 ∧ nt ≤ 12 ∧ no ≤ 10 ∧ ni ≤ 8 := ⟨h.1.1.2, h.1.2.1.2, h.1.2.2.1.2, h.1.2.2.2.1.2⟩
theorem RR.potN {σ τ : gS} {np nt no ni : Nat} (h : RR σ τ np nt no ni) {p : Nat} (hp : p < 10) : potS (τ.2 4) p nt = rowS (σ.2 3) p nt := by
  obtain ⟨-, hnt, -, -⟩ := h.pt
  exact isum_cg nt fun t ht => h.2.2.2.2.2.2.2.2.1 p t hp (by omega)
theorem RR.pot {σ τ : gS} {np nt no ni : Nat} (h : RR σ τ np nt no ni) {p : Nat} (hp : p < 10) : potS (τ.2 4) p 12 = rowS (σ.2 3) p nt := by
  obtain ⟨-, hnt, -, -⟩ := h.pt
  rw [← h.potN hp]
  exact isum_to hnt fun t h1 h2 => by
    rw [h.2.2.2.2.2.2.2.2.1 p t hp h2, h.2.2.1.2.2.1 p t hp h2 (Or.inl h1)]
theorem RR.lay {σ τ : gS} {np nt no ni : Nat} (h : RR σ τ np nt no ni) {q k : Nat} (hq : q < 8) (hk : k < 12) : isum (fun t => τ.2 6 (12 * (12 * q + k) + t)) nt = rowS (σ.2 3) (10 + q * 12 + k) nt := by
  obtain ⟨-, hnt, -, -⟩ := h.pt
  exact isum_cg nt fun t ht => h.2.2.2.2.2.2.2.2.2.2.1 q k t hq hk (by omega)
theorem RR.lc {σ τ : gS} {np nt no ni : Nat} (h : RR σ τ np nt no ni) {q : Nat} (hq : q < 8) : τ.2 5 q = σ.2 4 q := h.2.2.2.2.2.2.2.2.2.1 q hq
theorem RR.house {σ τ : gS} {np nt no ni : Nat} (h : RR σ τ np nt no ni) {q : Nat} (hq : q < 8) : (¬ τ.2 9 q = -1) ↔ ¬ σ.2 7 q ≤ 0 := by
  have e := h.2.2.2.2.2.2.2.2.2.2.2.2.2.1 q hq
  rw [e]
  obtain ⟨j, hj, ej⟩ := h.1.2.2.2.2.2.2 q
  by_cases c : σ.2 7 q ≤ 0
  · simp [c]
  · simp only [c, not_false_eq_true, if_true, iff_true, ej]
    intro z
    have := congrArg Int32.toInt z
    rw [nI_toInt (by omega)] at this
    simp at this
theorem colT_M {σ τ : gS} {np nt no ni : Nat} (h : RR σ τ np nt no ni) {t ch : Nat} (ht : t < 12) (hc : ch < 3) : colM τ t ch = colT σ t ch := by
  obtain ⟨j, hj, e⟩ := h.1.2.2.2.2.1 t
  rw [colM, colT, h.2.2.2.2.2.1 t ht, e, cl_nI (by omega), h.2.2.2.2.1 (3 * j + ch) (by omega), Nat.mul_comm]
