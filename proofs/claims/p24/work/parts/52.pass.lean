/-! Days that pass, on both sides. -/
def PL (σ τ0 τ : gS) (m : Nat → Nat) : Prop := (∀ q, q < 4 → m q ≤ cl (σ.2 7 q)) ∧ (∀ q, q < 4 → τ.2 5 (7 * q + 4) = nI (cl (σ.2 7 q) - m q)) ∧ (∀ q, q < 4 → τ.2 5 (7 * q + 3) = if m q = cl (σ.2 7 q) then 0 else nI (cl (σ.2 8 q) + 1)) ∧
  (∀ q, q < 4 → τ.2 5 (7 * q + 1) = σ.2 5 q + (if ¬ out (σ.2 10 (cl (σ.2 8 q))) 40 60 then 0 else nI (m q))) ∧ (∀ h, h < 4 → τ.2 6 (4 + h) = σ.2 11 h + isum (payF σ m h) 4) ∧
  (∀ k, k ≠ 5 → k ≠ 6 → τ.2 k = τ0.2 k) ∧ (∀ q, q < 4 → τ.2 5 (7 * q) = τ0.2 5 (7 * q)) ∧ (∀ q, q < 4 → τ.2 5 (7 * q + 2) = τ0.2 5 (7 * q + 2)) ∧ (∀ q, q < 4 → τ.2 5 (7 * q + 5) = τ0.2 5 (7 * q + 5)) ∧ (∀ h, h < 4 → τ.2 6 h = τ0.2 6 h)
theorem PL_0 {σ τ : gS} {T : Nat} (hN : inv24 σ T) (hR : rel24 σ τ) : PL σ τ τ fun _ => 0 := by
  have hDD : ∀ q, q < 4 → σ.2 7 q = nI (cl (σ.2 7 q)) ∧ cl (σ.2 7 q) ≤ 100 := fun q hq => days_nI hN.2.1 (by omega)
  refine ⟨fun q _ => Nat.zero_le _, fun q hq => ?_, fun q hq => ?_, fun q hq => ?_, fun h hh => ?_, fun _ _ _ => rfl, fun _ _ => rfl, fun _ _ => rfl, fun _ _ => rfl, fun _ _ => rfl⟩
  · rw [Nat.sub_zero, ← (hDD q hq).1]; exact hR.2.2.2.2.2.1 q hq
  · rw [hR.2.2.2.2.1 q hq, hsL, (hDD q hq).1, cl_nI (by have := (hDD q hq).2; omega)]
    by_cases c : cl (σ.2 7 q) = 0
    · rw [c, if_pos rfl, if_neg]; exact fun z => z (by decide)
    · have h2 := (hDD q hq).2
      rw [if_pos (nI_nle (n := cl (σ.2 7 q)) (by omega) (by omega)), if_neg (fun z => c z.symm)]
  · rw [hR.1.2.2.2.1 q hq, nI_0]; split <;> simp
  · have : isum (payF σ (fun _ => 0) h) 4 = isum (payF σ (fun _ => 0) h) 0 := isum_to (Nat.zero_le _) fun i _ hi => by
      rw [payF, nI_0]; split <;> simp
    rw [this, isum, Int32.add_zero]; exact hR.2.2.2.2.2.2.2.2.1 h hh
theorem PL_1 {σ τ0 τ : gS} {T : Nat} (hN : inv24 σ T) (hR : rel24 σ τ0) {m : Nat → Nat} (h : PL σ τ0 τ m) {q : Nat} (hq : q < 4) : ∃ m', PL σ τ0 (day1 τ q) m' ∧ m' q = min (m q + 1) (cl (σ.2 7 q)) ∧ ∀ j, j ≠ q → m' j = m j := by
  obtain ⟨p1', p2, p3, p4, p5, p6, p7, p8, p9, p10⟩ := h
  have hD := days_nI hN.2.1 (q := q) (by omega)
  have hm := p1' q hq
  obtain ⟨j, hj, ej⟩ := hN.1.2.2.2.2.2.2 q
  by_cases c : m q = cl (σ.2 7 q)
  · refine ⟨m, ?_, by omega, fun _ _ => rfl⟩
    rw [day1, if_pos (by rw [p3 q hq, if_pos c])]
    exact ⟨p1', p2, p3, p4, p5, p6, p7, p8, p9, p10⟩
  · have e9 : τ.2 5 (7 * q + 3) = nI (j + 1) := by rw [p3 q hq, if_neg c, ej, cl_nI (by omega)]
    have hne : ¬ τ.2 5 (7 * q + 3) = 0 := by rw [e9]; exact nI_ne0 (by omega) (by omega)
    have e10 : τ.2 5 (7 * q + 4) - 1 = nI (cl (σ.2 7 q) - (m q + 1)) := by
      rw [p2 q hq, show cl (σ.2 7 q) - m q = (cl (σ.2 7 q) - (m q + 1)) + 1 by omega, nI_pred]
    have e12 : τ.2 6 j = σ.2 10 j := (p10 j hj).trans (hR.2.2.2.2.2.2.2.1 j hj)
    have e11 : τ.2 5 (7 * q + 5) = σ.2 9 q := (p9 q hq).trans (hR.2.2.2.2.2.2.1 q hq)
    have hone : ∀ h, isum (payF σ (va_up m q (m q + 1)) h) 4 = isum (payF σ m h) 4 + (payF σ (va_up m q (m q + 1)) h q - payF σ m h q) := fun h => isum_one (fun i hi => by rw [payF, payF, va_up, if_neg hi]) 4 hq
    refine ⟨va_up m q (m q + 1), ?_, by rw [va_up, if_pos rfl]; omega, fun j hj => by rw [va_up, if_neg hj]⟩
    rw [day1, if_neg hne, e9, cl_nI (by omega), Nat.add_sub_cancel, dayF, e10, e12, e11]
    refine ⟨fun i hi => ?_, fun i hi => ?_, fun i hi => ?_, fun i hi => ?_, fun h hh => ?_, fun k h5 h6 => ?_, fun i hi => ?_, fun i hi => ?_, fun i hi => ?_, fun h hh => ?_⟩
    · by_cases e : i = q
      · subst e; rw [va_up, if_pos rfl]; omega
      · rw [va_up, if_neg e]; exact p1' i hi
    · show upd (upd (upd (τ.2 5) (7 * q + 1) _) (7 * q + 4) _) (7 * q + 3) _ (7 * i + 4) = _
      rw [upd_n (by omega)]
      by_cases e : i = q
      · subst e; rw [upd_s, va_up, if_pos rfl]
      · rw [upd_n (by omega), upd_n (by omega), va_up, if_neg e]; exact p2 i hi
    · show upd (upd (upd (τ.2 5) (7 * q + 1) _) (7 * q + 4) _) (7 * q + 3) _ (7 * i + 3) = _
      by_cases e : i = q
      · subst e
        rw [upd_s, va_up, if_pos rfl, ej, cl_nI (by omega)]
        by_cases c2 : m i + 1 = cl (σ.2 7 i)
        · rw [if_pos c2, if_neg]
          rw [show cl (σ.2 7 i) - (m i + 1) = 0 by omega]; exact fun z => z (by decide)
        · rw [if_neg c2, if_pos (nI_nle (by omega) (by omega))]
      · rw [upd_n (by omega), upd_n (by omega), upd_n (by omega), va_up, if_neg e]; exact p3 i hi
    · show upd (upd (upd (τ.2 5) (7 * q + 1) _) (7 * q + 4) _) (7 * q + 3) _ (7 * i + 1) = _
      rw [upd_n (by omega), upd_n (by omega)]
      by_cases e : i = q
      · subst e
        rw [upd_s, p4 i hi, va_up, if_pos rfl, ej, cl_nI (by omega)]
        by_cases c2 : ¬ out (σ.2 10 j) 40 60
        · rw [if_pos c2, if_pos c2, if_neg (show ¬ (σ.2 10 j < 40 ∨ ¬ σ.2 10 j ≤ 60) from c2)]; simp
        · rw [if_neg c2, if_neg c2, if_pos (show (σ.2 10 j < 40 ∨ ¬ σ.2 10 j ≤ 60) from Classical.not_not.mp c2), nI_succ]; grind
      · rw [upd_n (by omega), va_up, if_neg e]; exact p4 i hi
    · show upd (τ.2 6) (4 + j) _ (4 + h) = _
      rw [hone h, payF, payF, va_up, if_pos rfl, ej, cl_nI (by omega)]
      by_cases e : h = j
      · subst e
        rw [upd_s, if_pos rfl, if_pos rfl, p5 h hh, nI_succ]; grind
      · rw [upd_n (by omega), if_neg (fun z => e z.symm), if_neg (fun z => e z.symm), p5 h hh]; simp
    · rw [← p6 k h5 h6]
      show va_up (va_up τ.2 6 _) 5 _ k = _
      rw [va_up, if_neg h5, va_up, if_neg h6]
    · show upd (upd (upd (τ.2 5) (7 * q + 1) _) (7 * q + 4) _) (7 * q + 3) _ (7 * i) = _
      rw [upd_n (by omega), upd_n (by omega), upd_n (by omega)]; exact p7 i hi
    · show upd (upd (upd (τ.2 5) (7 * q + 1) _) (7 * q + 4) _) (7 * q + 3) _ (7 * i + 2) = _
      rw [upd_n (by omega), upd_n (by omega), upd_n (by omega)]; exact p8 i hi
    · show upd (upd (upd (τ.2 5) (7 * q + 1) _) (7 * q + 4) _) (7 * q + 3) _ (7 * i + 5) = _
      rw [upd_n (by omega), upd_n (by omega), upd_n (by omega)]; exact p9 i hi
    · show upd (τ.2 6) (4 + j) _ h = _
      rw [upd_n (by omega)]; exact p10 h hh
theorem PL_S {σ τ0 τ : gS} {T : Nat} (hN : inv24 σ T) (hR : rel24 σ τ0) {m : Nat → Nat} (h : PL σ τ0 τ m) : ∀ n, n ≤ 4 → ∃ m', PL σ τ0 (dayS τ n) m' ∧ ∀ j, m' j = if j < n then min (m j + 1) (cl (σ.2 7 j)) else m j
  | 0, _ => ⟨m, h, fun j => (if_neg (Nat.not_lt_zero j)).symm⟩
  | n + 1, hn => by
    obtain ⟨m1, h1, h2⟩ := PL_S hN hR h n (by omega)
    obtain ⟨m2, h3, h4, h5⟩ := PL_1 hN hR h1 (q := n) (by omega)
    refine ⟨m2, h3, fun j => ?_⟩
    by_cases e : j = n
    · subst e; rw [h4, h2 j, if_neg (by omega), if_pos (by omega)]
    · rw [h5 j e, h2 j]
      by_cases c : j < n
      · rw [if_pos c, if_pos (by omega)]
      · rw [if_neg c, if_neg (by omega)]
def dayN (τ : gS) : Nat → gS
  | 0 => τ
  | k + 1 => dayS (dayN τ k) 4
theorem PL_N {σ τ : gS} {T : Nat} (hN : inv24 σ T) (hR : rel24 σ τ) : ∀ k, ∃ m', PL σ τ (dayN τ k) m' ∧ ∀ j, j < 4 → m' j = min k (cl (σ.2 7 j))
  | 0 => ⟨_, PL_0 hN hR, fun j _ => by rw [Nat.zero_min]⟩
  | k + 1 => by
    obtain ⟨m1, h1, h2⟩ := PL_N hN hR k
    obtain ⟨m2, h3, h4⟩ := PL_S hN hR h1 4 (Nat.le_refl 4)
    refine ⟨m2, h3, fun j hj => ?_⟩
    rw [h4 j, if_pos hj, h2 j hj]; omega
theorem dOK_N {σ τ : gS} {T : Nat} (hN : inv24 σ T) (hR : rel24 σ τ) (k : Nat) : dOK (dayN τ k) := by
  obtain ⟨m, h, -⟩ := PL_N hN hR k
  intro q hq
  rw [h.2.2.1 q hq]
  obtain ⟨j, hj, ej⟩ := hN.1.2.2.2.2.2.2 q
  split
  · exact ⟨0, by omega, rfl⟩
  · exact ⟨j + 1, by omega, by rw [ej, cl_nI (by omega)]⟩
theorem P_ps {σ τ : gS} {T d : Nat} (hN : inv24 σ T) (hR : rel24 σ τ) (h1 : 1 ≤ d) (h2 : d ≤ 100) (h3 : T + d ≤ 5000) :
    0 = th_pass σ (nI d) ∧ σ.1 4 + nI d = nI (T + d) ∧ inv24 (sS (pfls σ (nI d) 4) 4 (σ.1 4 + nI d)) (T + d) ∧ rel24 (sS (pfls σ (nI d) 4) 4 (σ.1 4 + nI d)) (dayN τ d) := by
  have hK := th_ps hN.2.2.2.1 h1 h2 h3
  have e4 : σ.1 4 + nI d = nI (T + d) := by rw [hN.2.2.2.1, nI_add]
  have ho := op_pass (RR_ref hN.1 hN.2.1) (nI d)
  rw [← hK] at ho
  have fs := pfls_1 σ (nI d) 4
  have hs : ∀ k, k ≠ 4 → (sS (pfls σ (nI d) 4) 4 (σ.1 4 + nI d)).1 k = σ.1 k := fun k hk => by
    show upd (pfls σ (nI d) 4).1 4 _ k = _
    rw [upd_n hk, fs]
  obtain ⟨iA', nI'⟩ := op_inv4 hN.1 ho (hs 0 (by decide)) (hs 1 (by decide)) (hs 2 (by decide)) (hs 3 (by decide))
  obtain ⟨m, ⟨p1', p2, p3, p4, p5, p6, p7, p8, p9, p10⟩, em⟩ := PL_N hN hR d
  obtain ⟨b7, b5, b11⟩ := pfls_at hN.1 hN.2.1 h2 4 (by decide)
  have hDD : ∀ q, q < 4 → σ.2 7 q = nI (cl (σ.2 7 q)) ∧ cl (σ.2 7 q) ≤ 100 := fun q hq => days_nI hN.2.1 (by omega)
  have hmm : ∀ q, q < 4 → mB σ d 4 q = m q := fun q hq => by rw [em q hq, mB, if_pos hq]
  have f0 := pfls_2 σ (nI d) 0 (by decide) (by decide) (by decide) 4
  have f1 := pfls_2 σ (nI d) 1 (by decide) (by decide) (by decide) 4
  have f2 := pfls_2 σ (nI d) 2 (by decide) (by decide) (by decide) 4
  have f3 := pfls_2 σ (nI d) 3 (by decide) (by decide) (by decide) 4
  have f4 := pfls_2 σ (nI d) 4 (by decide) (by decide) (by decide) 4
  have f6 := pfls_2 σ (nI d) 6 (by decide) (by decide) (by decide) 4
  have f8 := pfls_2 σ (nI d) 8 (by decide) (by decide) (by decide) 4
  have f9 := pfls_2 σ (nI d) 9 (by decide) (by decide) (by decide) 4
  have f10 := pfls_2 σ (nI d) 10 (by decide) (by decide) (by decide) 4
  have g0 : (dayN τ d).2 0 = τ.2 0 := p6 0 (by decide) (by decide)
  have g1 : (dayN τ d).2 1 = τ.2 1 := p6 1 (by decide) (by decide)
  have g2 : (dayN τ d).2 2 = τ.2 2 := p6 2 (by decide) (by decide)
  have g3 : (dayN τ d).2 3 = τ.2 3 := p6 3 (by decide) (by decide)
  have g4 : (dayN τ d).2 4 = τ.2 4 := p6 4 (by decide) (by decide)
  generalize dayN τ d = T' at *
  generalize pfls σ (nI d) 4 = X at *
  obtain ⟨⟨v1, v2, w3, w4, w5⟩, r1, r2, r3, r4, r5, r6, r7, r8, r9⟩ := hR
  refine ⟨hK, e4, ⟨iA', nI', ⟨fun q hq => ?_, fun q hq => ?_, fun q hq => ?_⟩, e4, fun q ha hb => ?_⟩, ⟨⟨fun t ht => ?_, fun q k t hq hk ht => ?_, fun q hq => ?_, fun q hq => ?_, fun q hq => ?_⟩, fun t ht => ?_, fun t ht => ?_, fun q t hq ht => ?_, fun q hq => ?_, fun q hq => ?_, fun q hq => ?_, fun h hh => ?_, fun h hh => ?_, fun i hi => ?_⟩⟩
  · show ∃ j, j ≤ 3 ∧ X.2 4 q = nI j
    rw [f4]; exact hN.2.2.1.1 q hq
  · show ∃ j, j ≤ T + d ∧ X.2 5 q = nI j
    obtain ⟨j, hj, ej⟩ := hN.2.2.1.2.1 q hq
    rw [b5 q (by omega), hmm q hq, ej]
    have := em q hq
    split
    · exact ⟨j, by omega, Int32.add_zero _⟩
    · exact ⟨j + m q, by omega, nI_add _ _⟩
  · show ∃ j, j ≤ 9000 ∧ X.2 6 q = nI j
    rw [f6]; exact hN.2.2.1.2.2 q hq
  · show X.2 4 q = 0
    rw [f4]; exact hN.2.2.2.2 q ha hb
  · show T'.2 1 (3 * t) = X.2 1 t
    rw [f1, g1]; exact v1 t ht
  · show grL T' (3 * q + k) t = X.2 3 _
    rw [f3, gr_cg (τ := τ) (by rw [g3]) (by rw [g4])]; exact v2 q k t hq hk ht
  · show T'.2 5 (7 * q) = X.2 4 q
    rw [f4, p7 q hq]; exact w3 q hq
  · show T'.2 5 (7 * q + 1) = X.2 5 q
    rw [p4 q hq, b5 q (by omega), hmm q hq]
  · show T'.2 5 (7 * q + 2) = X.2 6 q
    rw [f6, p8 q hq]; exact w5 q hq
  · show T'.2 1 (3 * t + 1) = X.2 2 t
    rw [f2, g1]; exact r1 t ht
  · show T'.2 1 (3 * t + 2) = X.2 3 (106 * 12 + t)
    rw [f3, g1]; exact r2 t ht
  · show T'.2 2 (6 * q + t) = X.2 3 (q * 12 + t)
    rw [f3, g2]; exact r3 q t hq ht
  · show T'.2 5 (7 * q + 3) = if ¬ X.2 7 q ≤ 0 then nI (cl (X.2 8 q) + 1) else 0
    have h2 := (hDD q hq).2
    have h3 := p1' q hq
    rw [p3 q hq, b7 q (by omega), hmm q hq, f8]
    by_cases c : m q = cl (σ.2 7 q)
    · rw [if_pos c, if_neg]; rw [c, Nat.sub_self]; exact fun z => z (by decide)
    · rw [if_neg c, if_pos (nI_nle (by omega) (by omega))]
  · show T'.2 5 (7 * q + 4) = X.2 7 q
    rw [p2 q hq, b7 q (by omega), hmm q hq]
  · show T'.2 5 (7 * q + 5) = X.2 9 q
    rw [f9, p9 q hq]; exact r6 q hq
  · show T'.2 6 h = X.2 10 h
    rw [f10, p10 h hh]; exact r7 h hh
  · show T'.2 6 (4 + h) = X.2 11 h
    rw [p5 h hh, b11 h hh]
    have e8 : isum (payF σ (mB σ d 4) h) 8 = isum (payF σ (mB σ d 4) h) 4 := isum_to (by omega) fun i h1 h2 => by
      have hb0 : mB σ d 4 i = 0 := by rw [mB, if_neg (by omega)]
      rw [payF, hb0, nI_0]; split <;> simp
    rw [e8, isum_cg (f := payF σ m h) (g := payF σ (mB σ d 4) h) 4 fun q hq => by rw [payF, payF, hmm q hq]]
  · show T'.2 0 i = X.2 0 i
    rw [f0, g0]; exact r9 i hi
