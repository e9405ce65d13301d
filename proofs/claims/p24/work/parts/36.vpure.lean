/-! The worth of a picture, as numbers. -/
theorem mpr_1 (f : Nat → Int32) : ∀ n, (mpr f n).1 = -1 ∨ ∃ b, b < n ∧ (mpr f n).1 = nI b
  | 0 => Or.inl rfl
  | n + 1 => by
    rw [mpr]
    split
    · rcases mpr_1 f n with h | ⟨b, hb, e⟩
      · exact Or.inl h
      · exact Or.inr ⟨b, by omega, e⟩
    · exact Or.inr ⟨n, by omega, rfl⟩
theorem mpo_1 (σ : gS) (np nt q : Nat) : mpo σ np nt q = -1 ∨ ∃ b, b < np ∧ mpo σ np nt q = nI b := by
  rw [mpo]; split
  · exact Or.inl rfl
  · exact mpr_1 _ np
theorem alk_nat {σ : gS} {T : Nat} (hS : smlV σ T) (mn : Int32) : ∀ i, i ≤ 4 → ∃ S n, (alk σ 4 6 mn i).1 = nI S ∧ (alk σ 4 6 mn i).2 = nI n ∧ S ≤ 9000 * n ∧ n ≤ i
  | 0, _ => ⟨0, 0, rfl, rfl, Nat.le_refl _, Nat.le_refl _⟩
  | i + 1, hi => by
    obtain ⟨S, n, e1, e2, h1, h2⟩ := alk_nat hS mn i (by omega)
    rw [alk]
    split
    · obtain ⟨j, hj, ej⟩ := hS.2.2 i (by omega)
      refine ⟨S + j, n + 1, ?_, ?_, by omega, by omega⟩
      · show (alk σ 4 6 mn i).1 + σ.2 6 i = _
        rw [e1, ej, nI_add]
      · show (alk σ 4 6 mn i).2 + 1 = _
        rw [e2]; exact nI_add n 1
    · exact ⟨S, n, e1, e2, h1, by omega⟩
theorem sub_z9 (w x : Nat) : nI w - nI (0 * x) = nI w := by
  rw [Nat.zero_mul]; exact Int32.sub_zero _
theorem sub_s9 (w k x : Nat) : nI w - nI (k * x) - nI x = nI w - nI ((k + 1) * x) := by
  rw [Nat.succ_mul, ← nI_add]; grind
theorem val_end {w cr k : Nat} (hw : w ≤ 9000) (hcr : cr ≤ 600) (hk : k ≤ cr) (hex : k = cr ∨ nI w - nI (k * (w / 20)) ≤ 0) :
    (0 ≤ nI w - nI (k * (w / 20)) → nI w - nI (k * (w / 20)) = if 0 < nI w - nI cr * (nI w / 20) then nI w - nI cr * (nI w / 20) else 0) ∧ (¬ 0 ≤ nI w - nI (k * (w / 20)) → 0 = if 0 < nI w - nI cr * (nI w / 20) then nI w - nI cr * (nI w / 20) else 0) := by
  have e1 : nI w / 20 = nI (w / 20) := pk_div (a := w) (d := 20) (by omega) (by decide) (by decide)
  have e2 : nI cr * nI (w / 20) = nI (cr * (w / 20)) := pk_mul _ _
  have hp : w / 20 ≤ 450 := by omega
  have h1 : k * (w / 20) ≤ 600 * 450 := Nat.mul_le_mul (by omega) hp
  have h2 : cr * (w / 20) ≤ 600 * 450 := Nat.mul_le_mul hcr hp
  have h3 : k * (w / 20) ≤ cr * (w / 20) := Nat.mul_le_mul_right _ hk
  have f1 : (nI w - nI (k * (w / 20))).toInt = (w : Int) - (k * (w / 20) : Nat) := pk_sub_toInt (by omega) (by omega)
  have f2 : (nI w - nI (cr * (w / 20))).toInt = (w : Int) - (cr * (w / 20) : Nat) := pk_sub_toInt (by omega) (by omega)
  have z0 : (0 : Int32).toInt = 0 := rfl
  rw [e1, e2]
  rw [i32_le, f1, z0] at hex
  rw [i32_le, f1, z0]
  constructor
  · intro h
    by_cases c : 0 < nI w - nI (cr * (w / 20))
    · rw [if_pos c]
      rw [i32_lt, f2, z0] at c
      rcases hex with rfl | hex
      · rfl
      · omega
    · rw [if_neg c]
      rw [i32_lt, f2, z0] at c
      rw [i32_eq, f1, z0]
      rcases hex with rfl | hex
      · omega
      · omega
  · intro h
    rw [if_neg]
    rw [i32_lt, f2, z0]; omega
theorem val_z (cr : Int32) : (0 : Int32) = if (0 : Int32) < 0 - cr * (0 / 20) then 0 - cr * (0 / 20) else 0 := by
  have e : (0 : Int32) / 20 = 0 := by decide
  rw [e, Int32.mul_zero, Int32.sub_zero, if_neg (by decide)]
theorem nI_nm1 {n : Nat} (h : n < 2 ^ 31) : ¬ nI n = -1 := by
  rw [i32_eq, nI_toInt h, show (-1 : Int32).toInt = -1 from rfl]; omega
theorem nI_np {n : Nat} (h : n + 1 < 2 ^ 31) : ¬ nI (n + 1) ≤ 0 := by
  rw [i32_le, nI_toInt h, show (0 : Int32).toInt = 0 from rfl]; omega
