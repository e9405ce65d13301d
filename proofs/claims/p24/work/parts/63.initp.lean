/-! The law's start: pigments, pots, pictures; tubes. -/
def I1 (i : Nat) (σ τ : gS) : Prop := iA σ i 0 i i ∧ nInv σ 0 i ∧ σ.1 4 = 0 ∧ (∀ j, j < 3 * i → τ.2 0 j = σ.2 0 j) ∧ (∀ h, h < i → τ.2 6 h = 50) ∧ (∀ k, 1 ≤ k → k ≠ 10 → σ.2 k = fun _ => 0) ∧ (∀ h, h < 4 → σ.2 10 h = 50) ∧ (∀ k, 1 ≤ k → k ≠ 6 → τ.2 k = fun _ => 0) ∧ (∀ h, h < 4 → τ.2 6 (4 + h) = 0)
def I2 (i : Nat) (σ τ : gS) : Prop := iA σ 4 i 4 4 ∧ nInv σ i 4 ∧ σ.1 4 = 0 ∧ (∀ j, j < 12 → τ.2 0 j = σ.2 0 j) ∧ (∀ t, t < i → τ.2 1 (3 * t) = σ.2 1 t ∧ τ.2 1 (3 * t + 1) = σ.2 2 t) ∧ (∀ t, τ.2 1 (3 * t + 2) = 0) ∧ (∀ k, 3 ≤ k → k ≠ 10 → σ.2 k = fun _ => 0) ∧ (∀ h, h < 4 → σ.2 10 h = 50 ∧ τ.2 6 h = 50 ∧ τ.2 6 (4 + h) = 0) ∧ (∀ k, 2 ≤ k → k ≠ 6 → τ.2 k = fun _ => 0)
theorem I1_0 : I1 0 (sA σz 10 (fillF (fun _ => 0) (fun _ => 50) 4)) σz := by
  have h50 : ∀ h, h < 4 → (sA σz 10 (fillF (fun _ => 0) (fun _ => 50) 4)).2 10 h = 50 := fun h hh => fillF_at (fun _ => 0) (fun _ => 50) 4 h hh
  refine ⟨⟨⟨rfl, by omega⟩, ⟨rfl, by omega⟩, ⟨rfl, by omega⟩, ⟨rfl, by omega⟩, fun t => ⟨0, by omega, rfl⟩, fun t => ⟨0, by omega, rfl⟩, fun t => ⟨0, by omega, rfl⟩⟩,
    ⟨fun t ht => ⟨(by decide : (0 : Int) ≤ (0 : Int32).toInt), ?_⟩, fun p t hp ht => (by decide : (0 : Int) ≤ (0 : Int32).toInt), fun p t hp ht h => rfl, fun q k t hq hk ht => (by decide : (0 : Int) ≤ (0 : Int32).toInt ∧ (0 : Int32).toInt ≤ 1000), fun q k t hq hk ht h => rfl, fun q k hq hk => absurd hk (Nat.not_lt_zero k), fun h hh => ?_, fun q hq => (by decide : (0 : Int) ≤ (0 : Int32).toInt ∧ (0 : Int32).toInt ≤ 100), fun t ht => absurd ht (Nat.not_lt_zero t)⟩,
    rfl, fun j hj => absurd hj (by omega), fun h hh => absurd hh (Nat.not_lt_zero h), fun k h1 h2 => ?_, h50, fun _ _ _ => rfl, fun _ _ => rfl⟩
  · show (0 : Int32).toInt + zsum (fun p => (0 : Int32).toInt) 10 ≤ 1000
    decide
  · rw [h50 h hh]; decide
  · show va_up σz.2 10 _ k = _
    rw [va_up, if_neg h2]; rfl
theorem I1_step {i : Nat} {σ τ : gS} (h : I1 i σ τ) (hi : i < 4) {r g b : Nat} (hr : r < 256) (hg : g < 256) (hb : b < 256) :
    0 = th_pigment i (nI r) (nI g) (nI b) ∧ iA (s_pigment σ i (nI r) (nI g) (nI b)) (i + 1) 0 i i ∧ 0 = th_pot i ∧ iA (sS (s_pigment σ i (nI r) (nI g) (nI b)) 2 (nI (i + 1))) (i + 1) 0 (i + 1) i ∧ 0 = th_picture i ∧
    I1 (i + 1) (sS (sS (s_pigment σ i (nI r) (nI g) (nI b)) 2 (nI (i + 1))) 3 (nI (i + 1))) (sA (sA τ 0 (upd (upd (upd (τ.2 0) (3 * i) (nI r)) (3 * i + 1) (nI g)) (3 * i + 2) (nI b))) 6 (upd (τ.2 6) i 50)) := by
  obtain ⟨hA, hN, h4, hc, hd, hz, h50, hzt, hz6⟩ := h
  have k1 : th_pigment i (nI r) (nI g) (nI b) = 0 := by
    rw [th_pigment, if_neg, if_neg]
    · exact fun z => z ((nI_ltI (a := i) (b := 6) (by omega) (by decide)).mpr (by omega))
    · rintro (q | q | q)
      · exact out_in (a := r) (lo := 0) (M := 255) (by omega) (by omega) (by decide) q
      · exact out_in (a := g) (lo := 0) (M := 255) (by omega) (by omega) (by decide) q
      · exact out_in (a := b) (lo := 0) (M := 255) (by omega) (by omega) (by decide) q
  have k2 : th_pot i = 0 := by rw [th_pot, if_neg]; exact fun z => z ((nI_ltI (a := i) (b := 10) (by omega) (by decide)).mpr (by omega))
  have k3 : th_picture i = 0 := by rw [th_picture, if_neg]; exact fun z => z ((nI_ltI (a := i) (b := 8) (by omega) (by decide)).mpr (by omega))
  have o1 := op_pigment (RR_ref hA hN) (nI r) (nI g) (nI b)
  rw [k1] at o1
  obtain ⟨a1, n1⟩ := op_inv (a := i + 1) (b := 0) (c := i) (d := i) o1 rfl hA.2.1.1 hA.2.2.1.1 hA.2.2.2.1.1 (by omega) (by omega) (by omega) (by omega)
  have o2 := op_pot (RR_ref a1 n1)
  rw [k2] at o2
  obtain ⟨a2, n2⟩ := op_inv (a := i + 1) (b := 0) (c := i + 1) (d := i) o2 a1.1.1 a1.2.1.1 rfl a1.2.2.2.1.1 (by omega) (by omega) (by omega) (by omega)
  have o3 := op_picture (RR_ref a2 n2)
  rw [k3] at o3
  obtain ⟨a3, n3⟩ := op_inv (a := i + 1) (b := 0) (c := i + 1) (d := i + 1) o3 a2.1.1 a2.2.1.1 a2.2.2.1.1 rfl (by omega) (by omega) (by omega) (by omega)
  refine ⟨k1.symm, a1, k2.symm, a2, k3.symm, a3, n3, h4, fun j hj => ?_, fun h hh => ?_, fun k h1 h2 => ?_, h50, fun k h1 h2 => ?_, fun h hh => ?_⟩
  · show upd (upd (upd (τ.2 0) (3 * i) _) (3 * i + 1) _) (3 * i + 2) _ j = upd (upd (upd (σ.2 0) (i * 3) _) (i * 3 + 1) _) (i * 3 + 2) _ j
    rw [Nat.mul_comm i 3]
    by_cases e2 : j = 3 * i + 2
    · rw [e2, upd_s, upd_s]
    · rw [upd_n e2, upd_n e2]
      by_cases e1 : j = 3 * i + 1
      · rw [e1, upd_s, upd_s]
      · rw [upd_n e1, upd_n e1]
        by_cases e0 : j = 3 * i
        · rw [e0, upd_s, upd_s]
        · rw [upd_n e0, upd_n e0]; exact hc j (by omega)
  · show upd (τ.2 6) i 50 h = 50
    by_cases e : h = i
    · rw [e, upd_s]
    · rw [upd_n e]; exact hd h (by omega)
  · show va_up σ.2 0 _ k = _
    rw [va_up, if_neg (by omega)]; exact hz k h1 h2
  · show va_up (va_up τ.2 0 _) 6 _ k = _
    rw [va_up, if_neg h2, va_up, if_neg (by omega)]; exact hzt k h1 h2
  · show upd (τ.2 6) i 50 (4 + h) = 0
    rw [upd_n (by omega)]; exact hz6 h hh
theorem I2_0 {σ τ : gS} (h : I1 4 σ τ) : I2 0 σ τ := by
  obtain ⟨hA, hN, h4, hc, hd, hz, h50, hzt, hz6⟩ := h
  refine ⟨hA, hN, h4, fun j hj => hc j (by omega), fun t ht => absurd ht (Nat.not_lt_zero t), fun t => ?_, fun k h1 h2 => hz k (by omega) h2, fun h hh => ⟨h50 h hh, hd h hh, hz6 h hh⟩, fun k h1 h2 => hzt k (by omega) h2⟩
  rw [hzt 1 (by decide) (by decide)]
theorem I2_step {i : Nat} {σ τ : gS} (h : I2 i σ τ) (hi : i < 6) {p s : Nat} (hp : p < 4) (hs : s < 300) :
    0 = th_tube 4 i (nI p) (nI (1 + s)) ∧ I2 (i + 1) (s_tube σ i (nI p) (nI (1 + s))) (sA τ 1 (upd (upd (τ.2 1) (3 * i) (nI p)) (3 * i + 1) (nI (1 + s)))) := by
  obtain ⟨hA, hN, h4, hc, ht, hw, hz, hd, hzt⟩ := h
  have k1 : th_tube 4 i (nI p) (nI (1 + s)) = 0 := by
    rw [th_tube, if_neg (nb_in hp (by decide)), if_neg (show ¬ out (nI (1 + s)) 1 1000 from out_in (lo := 1) (M := 1000) (by omega) (by omega) (by decide)), if_neg]
    exact fun z => z ((nI_ltI (a := i) (b := 12) (by omega) (by decide)).mpr (by omega))
  have o1 := op_tube (RR_ref hA hN) (nI p) (nI (1 + s))
  rw [k1] at o1
  obtain ⟨a1, n1⟩ := op_inv (a := 4) (b := i + 1) (c := 4) (d := 4) o1 hA.1.1 rfl hA.2.2.1.1 hA.2.2.2.1.1 (by omega) (by omega) (by omega) (by omega)
  refine ⟨k1.symm, a1, n1, h4, hc, fun t hlt => ?_, fun t => ?_, fun k h1 h2 => ?_, hd, fun k h1 h2 => ?_⟩
  · show upd (upd (τ.2 1) (3 * i) _) (3 * i + 1) _ (3 * t) = upd (σ.2 1) i _ t ∧ upd (upd (τ.2 1) (3 * i) _) (3 * i + 1) _ (3 * t + 1) = upd (σ.2 2) i _ t
    by_cases e : t = i
    · subst e
      rw [upd_n (by omega), upd_s, upd_s, upd_s, upd_s]; exact ⟨rfl, rfl⟩
    · rw [upd_n (by omega), upd_n (by omega), upd_n e, upd_n (by omega), upd_n (by omega), upd_n e]
      exact ht t (by omega)
  · show upd (upd (τ.2 1) (3 * i) _) (3 * i + 1) _ (3 * t + 2) = 0
    rw [upd_n (by omega), upd_n (by omega)]; exact hw t
  · show va_up (va_up σ.2 1 _) 2 _ k = _
    rw [va_up, if_neg (by omega), va_up, if_neg (by omega)]; exact hz k h1 h2
  · show va_up τ.2 1 _ k = _
    rw [va_up, if_neg (by omega)]; exact hzt k h1 h2
theorem I2_end {σ τ : gS} (h : I2 6 σ τ) : inv24 σ 0 ∧ rel24 σ τ := by
  obtain ⟨hA, hN, h4, hc, ht, hw, hz, hd, hzt⟩ := h
  have z3 := hz 3 (by decide) (by decide); have z4 := hz 4 (by decide) (by decide); have z5 := hz 5 (by decide) (by decide); have z6 := hz 6 (by decide) (by decide)
  have z7 := hz 7 (by decide) (by decide); have z9 := hz 9 (by decide) (by decide); have z11 := hz 11 (by decide) (by decide)
  have y2 := hzt 2 (by decide) (by decide); have y3 := hzt 3 (by decide) (by decide); have y4 := hzt 4 (by decide) (by decide); have y5 := hzt 5 (by decide) (by decide)
  refine ⟨⟨hA, hN, ⟨fun q hq => ⟨0, by omega, by rw [z4]; rfl⟩, fun q hq => ⟨0, by omega, by rw [z5]; rfl⟩, fun q hq => ⟨0, by omega, by rw [z6]; rfl⟩⟩, h4, fun q _ _ => by rw [z4]⟩,
    ⟨⟨fun t h => (ht t h).1, fun q k t hq hk h => ?_, fun q hq => by rw [y5, z4], fun q hq => by rw [y5, z5], fun q hq => by rw [y5, z6]⟩, fun t h => (ht t h).2, fun t h => by rw [hw, z3], fun q t hq h => by rw [y2, z3], fun q hq => ?_, fun q hq => by rw [y5, z7], fun q hq => by rw [y5, z9], fun h hh => (hd h hh).2.1.trans (hd h hh).1.symm, fun h hh => by rw [z11]; exact (hd h hh).2.2, hc⟩⟩
  · rw [z3]; exact grl_0 (by rw [y3]) (by rw [y4]) t h
  · rw [y5, hsL, z7, if_neg (fun z => z (show (0 : Int32) ≤ 0 by decide))]
