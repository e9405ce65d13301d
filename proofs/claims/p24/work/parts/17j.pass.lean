theorem op_pass {σ τ : gS} {np nt no ni : Nat} (hR : RR σ τ np nt no ni) (d : Int32) : opOK (th_pass σ d) (tm_pass τ d) cdA (σ.1 4 + d) ((pN (sS τ 0 0) ni (cl d)).1 5) (sS (pfls σ d ni) 4 (σ.1 4 + d)) (pN (sS τ 0 0) ni (cl d)) := by
  have hp := hR.pt
  have hr1 : τ.1 5 = σ.1 4 := hR.2.2.2.1
  refine opIf Iff.rfl (by decide) fun h0 => opIf (by rw [hr1]) (by decide) fun h1 => ?_
  obtain ⟨a, ⟨ha1, ha⟩, rfl⟩ := out_nat (M := 100) rfl (by decide) h0
  rw [cl_nI (by omega)]
  have hDD : ∀ q, q < 8 → σ.2 7 q = nI (cl (σ.2 7 q)) ∧ cl (σ.2 7 q) ≤ 100 := fun q hq => days_nI hR.2.2.1 hq
  have hP0 : PP σ (sS τ 0 0) (sS τ 0 0) fun _ => 0 := by
    obtain ⟨A, M, N, ⟨r1, r2, r3, r4, r5, r6, r7, r8, r9, r10, r11, r12, r13, r14, r15⟩⟩ := hR
    refine ⟨fun q _ => Nat.zero_le _, fun q hq => ?_, fun q hq => ?_, fun q hq => ?_, fun h hh => ?_, fun _ _ _ _ _ => rfl, fun _ _ => rfl⟩
    · show τ.2 10 q = nI (cl (σ.2 7 q) - 0)
      rw [Nat.sub_zero, ← (hDD q hq).1]; exact r12 q hq
    · show τ.2 9 q = if 0 = cl (σ.2 7 q) then -1 else σ.2 8 q
      rw [r11 q hq, (hDD q hq).1, cl_nI (by have := (hDD q hq).2; omega)]
      by_cases c : cl (σ.2 7 q) = 0
      · rw [c, if_pos rfl, if_neg]; exact fun z => z (by decide)
      · have h2 := (hDD q hq).2
        rw [if_pos (nI_nle (n := cl (σ.2 7 q)) (by omega) (by omega)), if_neg (fun z => c z.symm)]
    · show τ.2 7 q = σ.2 5 q + (if ¬ out (σ.2 10 (cl (σ.2 8 q))) 40 60 then 0 else nI 0)
      rw [r9 q hq, nI_0]; split <;> simp
    · show τ.2 13 h = σ.2 11 h + isum (payF σ (fun _ => 0) h) 8
      have : isum (payF σ (fun _ => 0) h) 8 = isum (payF σ (fun _ => 0) h) 0 := isum_to (Nat.zero_le _) fun i _ hi => by
        rw [payF, nI_0]; split <;> simp
      rw [this, isum, Int32.add_zero]; exact r15 h hh
  obtain ⟨⟨m, ⟨p1', p2, p3, p4, p5, p6, p7⟩, em⟩, e5⟩ := PP_pN (hR.S0 0) hP0 a
  obtain ⟨b7, b5, b11⟩ := pfls_at hR.1 hR.2.2.1 ha ni hp.2.2.2
  have hmm : ∀ q, q < 8 → mB σ a ni q = m q := fun q hq => by rw [em q hq, mB]
  have hA := iA_pfls hR.1 (nI a) ni
  have hM := iM0_pN (iM0_S0 hR.2.1 0) (ni := ni) a
  have f0 := pfls_2 σ (nI a) 0 (by decide) (by decide) (by decide) ni
  have f1 := pfls_2 σ (nI a) 1 (by decide) (by decide) (by decide) ni
  have f2 := pfls_2 σ (nI a) 2 (by decide) (by decide) (by decide) ni
  have f3 := pfls_2 σ (nI a) 3 (by decide) (by decide) (by decide) ni
  have f4 := pfls_2 σ (nI a) 4 (by decide) (by decide) (by decide) ni
  have f6 := pfls_2 σ (nI a) 6 (by decide) (by decide) (by decide) ni
  have f8 := pfls_2 σ (nI a) 8 (by decide) (by decide) (by decide) ni
  have f9 := pfls_2 σ (nI a) 9 (by decide) (by decide) (by decide) ni
  have f10 := pfls_2 σ (nI a) 10 (by decide) (by decide) (by decide) ni
  have fs := pfls_1 σ (nI a) ni
  have g0 : (pN (sS τ 0 0) ni a).2 0 = τ.2 0 := p6 0 (by decide) (by decide) (by decide) (by decide)
  have g1 : (pN (sS τ 0 0) ni a).2 1 = τ.2 1 := p6 1 (by decide) (by decide) (by decide) (by decide)
  have g2 : (pN (sS τ 0 0) ni a).2 2 = τ.2 2 := p6 2 (by decide) (by decide) (by decide) (by decide)
  have g3 : (pN (sS τ 0 0) ni a).2 3 = τ.2 3 := p6 3 (by decide) (by decide) (by decide) (by decide)
  have g4 : (pN (sS τ 0 0) ni a).2 4 = τ.2 4 := p6 4 (by decide) (by decide) (by decide) (by decide)
  have g5 : (pN (sS τ 0 0) ni a).2 5 = τ.2 5 := p6 5 (by decide) (by decide) (by decide) (by decide)
  have g6 : (pN (sS τ 0 0) ni a).2 6 = τ.2 6 := p6 6 (by decide) (by decide) (by decide) (by decide)
  have g8 : (pN (sS τ 0 0) ni a).2 8 = τ.2 8 := p6 8 (by decide) (by decide) (by decide) (by decide)
  have g11 : (pN (sS τ 0 0) ni a).2 11 = τ.2 11 := p6 11 (by decide) (by decide) (by decide) (by decide)
  have g12 : (pN (sS τ 0 0) ni a).2 12 = τ.2 12 := p6 12 (by decide) (by decide) (by decide) (by decide)
  have e5' : (pN (sS τ 0 0) ni a).1 5 = σ.1 4 + nI a := by rw [e5, ← hr1]; rfl
  have e0 : (pN (sS τ 0 0) ni a).1 0 = 0 := p7 0 (by decide)
  generalize pN (sS τ 0 0) ni a = T at *
  generalize pfls σ (nI a) ni = X at *
  obtain ⟨A, M, ⟨n1, n2, n3, n4, n5, n6, n7, n8, n9⟩, ⟨r1, r2, r3, r4, r5, r6, r7, r8, r9, r10, r11, r12, r13, r14, r15⟩⟩ := hR
  refine ok0 e5'.symm ⟨np, nt, no, ni, hA, hM, ?_, ?_⟩ e0
  · show (∀ t, t < 12 → 0 ≤ (X.2 2 t).toInt ∧ (X.2 2 t).toInt + zsum (fun p => (X.2 3 (p * 12 + t)).toInt) 10 ≤ 1000) ∧
      (∀ p t, p < 10 → t < 12 → 0 ≤ (X.2 3 (p * 12 + t)).toInt) ∧
      (∀ p t, p < 10 → t < 12 → nt ≤ t ∨ no ≤ p → X.2 3 (p * 12 + t) = 0) ∧
      (∀ q k t, q < 8 → k < 12 → t < 12 → 0 ≤ (X.2 3 ((10 + q * 12 + k) * 12 + t)).toInt ∧ (X.2 3 ((10 + q * 12 + k) * 12 + t)).toInt ≤ 1000) ∧
      (∀ q k t, q < 8 → k < 12 → t < 12 → nt ≤ t ∨ cl (X.2 4 q) ≤ k → X.2 3 ((10 + q * 12 + k) * 12 + t) = 0) ∧
      (∀ q k, q < 8 → k < cl (X.2 4 q) → 1 ≤ zsum (fun t => (X.2 3 ((10 + q * 12 + k) * 12 + t)).toInt) 12) ∧
      (∀ h, h < 4 → 0 ≤ (X.2 10 h).toInt ∧ (X.2 10 h).toInt ≤ 100) ∧
      (∀ q, q < 8 → 0 ≤ (X.2 7 q).toInt ∧ (X.2 7 q).toInt ≤ 100) ∧
      (∀ t, t < nt → (X.2 1 t).toInt < (X.1 0).toInt)
    rw [f1, f2, f3, f4, f10, fs]
    refine ⟨n1, n2, n3, n4, n5, n6, n7, fun q hq => ?_, n9⟩
    have := (hDD q hq).2
    rw [b7 q hq, nI_toInt (by omega)]; omega
  · show T.1 5 = σ.1 4 + nI a ∧ (∀ j, j < 18 → T.2 0 j = X.2 0 j) ∧ (∀ t, t < 12 → T.2 1 t = X.2 1 t) ∧ (∀ t, t < 12 → T.2 2 t = X.2 2 t) ∧ (∀ t, t < 12 → T.2 3 t = X.2 3 (106 * 12 + t)) ∧
      (∀ p t, p < 10 → t < 12 → T.2 4 (12 * p + t) = X.2 3 (p * 12 + t)) ∧ (∀ q, q < 8 → T.2 5 q = X.2 4 q) ∧
      (∀ q k t, q < 8 → k < 12 → t < 12 → T.2 6 (12 * (12 * q + k) + t) = X.2 3 ((10 + q * 12 + k) * 12 + t)) ∧
      (∀ q, q < 8 → T.2 7 q = X.2 5 q) ∧ (∀ q, q < 8 → T.2 8 q = X.2 6 q) ∧ (∀ q, q < 8 → T.2 9 q = if ¬ X.2 7 q ≤ 0 then X.2 8 q else -1) ∧
      (∀ q, q < 8 → T.2 10 q = X.2 7 q) ∧ (∀ q, q < 8 → T.2 11 q = X.2 9 q) ∧ (∀ h, h < 4 → T.2 12 h = X.2 10 h) ∧ (∀ h, h < 4 → T.2 13 h = X.2 11 h)
    rw [f0, f1, f2, f3, f4, f6, f8, f9, f10, g0, g1, g2, g3, g4, g5, g6, g8, g11, g12]
    refine ⟨e5', r2, r3, r4, r5, r6, r7, r8, fun q hq => ?_, r10, fun q hq => ?_, fun q hq => ?_, r13, r14, fun h hh => ?_⟩
    · rw [p4 q hq, b5 q hq, hmm q hq]
    · have h2 := (hDD q hq).2
      have h3 := p1' q hq
      rw [p3 q hq, b7 q hq, hmm q hq]
      by_cases c : m q = cl (σ.2 7 q)
      · rw [if_pos c, if_neg]; rw [c, Nat.sub_self]; exact fun z => z (by decide)
      · rw [if_neg c, if_pos (nI_nle (by omega) (by omega))]
    · rw [p2 q hq, b7 q hq, hmm q hq]
    · rw [p5 h hh, b11 h hh]
      rw [isum_cg (f := payF σ m h) (g := payF σ (mB σ a ni) h) 8 fun q hq => by rw [payF, payF, hmm q hq]]
