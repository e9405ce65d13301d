/-! Every act of the law answers 1, and both sides stay the same. -/
theorem sq_same (τ : gS) (i j : Nat) : sA (sA τ 1 (upd (τ.2 1) i (τ.2 1 i - 0))) 2 (upd (τ.2 2) j (τ.2 2 j + 0)) = τ := by
  rw [Int32.sub_zero, upd_id rfl, sA_id, Int32.add_zero, upd_id rfl, sA_id]
theorem se_same (τ : gS) (i : Nat) : sA τ 5 (upd (τ.2 5) i (τ.2 5 i)) = τ := by
  rw [upd_id rfl, sA_id]
theorem low_x (v : Int32) {n : Nat} (h : 0 < n) : ∃ a, lowN v n = a ∧ a < n := ⟨_, rfl, lowN_lt v h⟩
section ALL
variable (l : Launch) (D : va_G) (cI cJ : ClassId) (h g : Nat → Nat) (σ τ : gS) (T : Nat)
theorem m_sq (hst : l.stackTraces = false) (hN : inv24 σ T) (hR : rel24 σ τ) (z : Int32) : ∃ σ' τ' n, n ≤ 1 ∧ inv24 σ' T ∧ rel24 σ' τ' ∧ MC l yL_mixes wsL_mixes 9 187 D (tyIJ cI cJ) [.ref (h 0), .int 0, .int z, .ref (g 1), .ref (g 2), .ref (g 3), .ref (g 4), .ref (g 5), .ref (g 7)] (wB cI h g σ τ) (wB cI h g σ' τ') none (some (.int 1)) n := by
  obtain ⟨pt, e0, hpt⟩ := low_x z (n := 4) (by decide)
  obtain ⟨tb, e1, htb⟩ := low_x (z >>> (2 &&& 31)) (n := 6) (by decide)
  obtain ⟨s0, e2, hs0⟩ := low_x (z >>> (5 &&& 31)) (n := 60) (by decide)
  by_cases hc : nI (1 + s0) ≤ τ.2 1 (3 * tb + 1)
  · obtain ⟨hK, h1, h2⟩ := P_sq hN hR hpt htb (n := 1 + s0) (by omega) (by omega) hc
    exact ⟨_, _, 1, Nat.le_refl 1, h1, h2, x_squeeze0 l D cI cJ hst h g σ τ hN.1 z pt e0 hpt tb s0 e1 e2 htb hs0 hc hK (by rw [hR.2.1 tb htb])⟩
  · have hx := x_squeeze3 l D cI cJ hst h g σ τ hN.1 z pt e0 hpt tb s0 e1 e2 htb hs0 hc (by rw [th_sq hpt htb (by omega) (by omega), if_pos (by rw [← hR.2.1 tb htb]; exact hc)])
    rw [sq_same] at hx
    exact ⟨σ, τ, 1, Nat.le_refl 1, hN, hR, hx⟩
theorem m_po (hst : l.stackTraces = false) (hN : inv24 σ T) (hR : rel24 σ τ) (z : Int32) : ∃ σ' τ' n, n ≤ 1 ∧ inv24 σ' T ∧ rel24 σ' τ' ∧ MC l yL_mixes wsL_mixes 9 187 D (tyIJ cI cJ) [.ref (h 0), .int 1, .int z, .ref (g 1), .ref (g 2), .ref (g 3), .ref (g 4), .ref (g 5), .ref (g 7)] (wB cI h g σ τ) (wB cI h g σ' τ') none (some (.int 1)) n := by
  obtain ⟨pt, e0, hpt⟩ := low_x z (n := 4) (by decide)
  obtain ⟨o0, e1, ho0⟩ := low_x (z >>> (3 &&& 31)) (n := 3) (by decide)
  obtain ⟨s0, e2, hs0⟩ := low_x (z >>> (5 &&& 31)) (n := 50) (by decide)
  obtain ⟨ot, hot⟩ : ∃ a, (pt + 1 + o0) % 4 = a := ⟨_, rfl⟩
  have hne : pt ≠ ot := by omega
  have hcN := can_N hN hR (x := pt) (n := 1 + s0) hpt (by omega)
  by_cases hc : nI (1 + s0) ≤ potL τ pt 6
  · obtain ⟨hK, h1, h2⟩ := P_po hN hR hpt (ot := ot) (by omega) hne (n := 1 + s0) (by omega) (by omega) (hcN.mp hc)
    exact ⟨_, _, 1, Nat.le_refl 1, h1, h2, x_pour0 l D cI cJ hst h g σ τ hN.1 z pt e0 hpt o0 ot s0 e1 e2 ho0 hot (by omega) hs0 (pot_ok hN hR hpt) (hcN.mp hc) hc hK (pot_row h2 (by omega) 6 (Nat.le_refl 6)).symm⟩
  · refine ⟨σ, τ, 1, Nat.le_refl 1, hN, hR, x_pour3 l D cI cJ hst h g σ τ hN.1 z pt e0 hpt o0 ot s0 e1 e2 ho0 hot (by omega) hs0 hc ?_⟩
    have hP := potN_le (pot_ok hN hR hpt) 6 (Nat.le_refl 6)
    rw [th_po hpt (by omega) hne (by omega) (by omega), if_pos]
    rw [row_N hN hR hpt 6 (Nat.le_refl 6)]
    exact (nI_ltI (by omega) (by omega)).mpr (Nat.lt_of_not_le (fun w => hc (hcN.mpr w)))
theorem m_sc (hst : l.stackTraces = false) (hN : inv24 σ T) (hR : rel24 σ τ) (z : Int32) : ∃ σ' τ' n, n ≤ 1 ∧ inv24 σ' T ∧ rel24 σ' τ' ∧ MC l yL_mixes wsL_mixes 9 187 D (tyIJ cI cJ) [.ref (h 0), .int 2, .int z, .ref (g 1), .ref (g 2), .ref (g 3), .ref (g 4), .ref (g 5), .ref (g 7)] (wB cI h g σ τ) (wB cI h g σ' τ') none (some (.int 1)) n := by
  obtain ⟨pt, e0, hpt⟩ := low_x z (n := 4) (by decide)
  obtain ⟨h1, h2⟩ := P_sc hN hR hpt
  exact ⟨_, _, 0, Nat.zero_le 1, h1, h2, x_scrape l D cI cJ hst h g σ τ hN.1 z pt e0 hpt (th_sc hpt) (pot_row hR hpt 6 (Nat.le_refl 6)).symm⟩
theorem m_pa (hst : l.stackTraces = false) (hN : inv24 σ T) (hR : rel24 σ τ) (z : Int32) : ∃ σ' τ' n, n ≤ 1 ∧ inv24 σ' T ∧ rel24 σ' τ' ∧ MC l yL_mixes wsL_mixes 9 187 D (tyIJ cI cJ) [.ref (h 0), .int 3, .int z, .ref (g 1), .ref (g 2), .ref (g 3), .ref (g 4), .ref (g 5), .ref (g 7)] (wB cI h g σ τ) (wB cI h g σ' τ') none (some (.int 1)) n := by
  obtain ⟨pt, e0, hpt⟩ := low_x z (n := 4) (by decide)
  obtain ⟨q, e1, hq⟩ := low_x (z >>> (3 &&& 31)) (n := 4) (by decide)
  obtain ⟨s0, e2, hs0⟩ := low_x (z >>> (5 &&& 31)) (n := 40) (by decide)
  obtain ⟨ly, hly, es⟩ := hN.2.2.1.1 q hq
  have el : τ.2 5 (7 * q) = nI ly := (hR.1.2.2.1 q hq).trans es
  have hcN := can_N hN hR (x := pt) (n := 1 + s0) hpt (by omega)
  have hho := home_iff hR hq hN.1
  by_cases hl : ly = 3
  · exact ⟨σ, τ, 0, Nat.zero_le 1, hN, hR, x_paintF l D cI cJ hst h g σ τ hN.1 z pt e0 hpt q s0 ly e1 e2 hq hs0 el hl (Classical.em _)⟩
  · have hl3 : ly < 3 := by omega
    by_cases hh : τ.2 5 (7 * q + 3) = 0
    · by_cases hc : nI (1 + s0) ≤ potL τ pt 6
      · obtain ⟨hK, hr, h1, h2⟩ := P_pa hN hR hpt hq (n := 1 + s0) (by omega) (by omega) (hcN.mp hc) el hl3 hh rfl rfl
        exact ⟨_, _, 1, Nat.le_refl 1, h1, h2, x_paint0 l D cI cJ hst h g σ τ hN.1 z pt e0 hpt q s0 ly e1 e2 hq hs0 el _ _ rfl rfl hl3 hh (pot_ok hN hR hpt) (hcN.mp hc) hc hK hr⟩
      · refine ⟨σ, τ, 1, Nat.le_refl 1, hN, hR, x_paintS l D cI cJ hst h g σ τ hN.1 z pt e0 hpt q s0 ly e1 e2 hq hs0 el hl3 hh hc ?_⟩
        have hP := potN_le (pot_ok hN hR hpt) 6 (Nat.le_refl 6)
        rw [th_pa hq hpt (by omega) (by omega), if_pos]
        refine Or.inr (Or.inr ?_)
        rw [row_N hN hR hpt 6 (Nat.le_refl 6)]
        exact (nI_ltI (by omega) (by omega)).mpr (Nat.lt_of_not_le (fun w => hc (hcN.mpr w)))
    · refine ⟨σ, τ, 1, Nat.le_refl 1, hN, hR, x_paintA l D cI cJ hst h g σ τ hN.1 z pt e0 hpt q s0 ly e1 e2 hq hs0 el hl3 hh ?_⟩
      rw [th_pa hq hpt (by omega) (by omega), if_pos (Or.inl (fun w => hh (hho.mpr w)))]
theorem m_cl (hst : l.stackTraces = false) (hN : inv24 σ T) (hR : rel24 σ τ) (z : Int32) : ∃ σ' τ' n, n ≤ 1 ∧ inv24 σ' T ∧ rel24 σ' τ' ∧ MC l yL_mixes wsL_mixes 9 187 D (tyIJ cI cJ) [.ref (h 0), .int 4, .int z, .ref (g 1), .ref (g 2), .ref (g 3), .ref (g 4), .ref (g 5), .ref (g 7)] (wB cI h g σ τ) (wB cI h g σ' τ') none (some (.int 1)) n := by
  obtain ⟨pt, e0, hpt⟩ := low_x z (n := 4) (by decide)
  obtain ⟨q, e1, hq⟩ := low_x (z >>> (3 &&& 31)) (n := 4) (by decide)
  obtain ⟨s0, e2, hs0⟩ := low_x (z >>> (6 &&& 31)) (n := 3) (by decide)
  obtain ⟨ly, hly, es⟩ := hN.2.2.1.1 q hq
  have el : τ.2 5 (7 * q) = nI ly := (hR.1.2.2.1 q hq).trans es
  have hho := home_iff hR hq hN.1
  by_cases hh : τ.2 5 (7 * q + 3) = 0
  · by_cases hc : 1 + s0 ≤ ly
    · obtain ⟨hK, hr, h1, h2⟩ := P_cl hN hR hq (n := 1 + s0) (by omega) hc el hly hh
      exact ⟨_, _, 1, Nat.le_refl 1, h1, h2, x_clean0 l D cI cJ hst h g σ τ hN.1 z pt e0 hpt q s0 ly e1 e2 hq hs0 el hly hh hc hK hr⟩
    · refine ⟨σ, τ, 1, Nat.le_refl 1, hN, hR, x_cleanS l D cI cJ hst h g σ τ hN.1 z pt e0 hpt q s0 ly e1 e2 hq hs0 el hly hh hc ?_⟩
      rw [th_cl hq (by omega) (by omega), if_pos]
      exact Or.inr (by rw [es]; exact fun w => hc ((nI_leI (by omega) (by omega)).mp w))
  · refine ⟨σ, τ, 1, Nat.le_refl 1, hN, hR, x_cleanA l D cI cJ hst h g σ τ hN.1 z pt e0 hpt q s0 ly e1 e2 hq hs0 el hly hh ?_⟩
    rw [th_cl hq (by omega) (by omega), if_pos (Or.inl (fun w => hh (hho.mpr w)))]
theorem t_le (hst : l.stackTraces = false) (hT : T ≤ 600) (hN : inv24 σ T) (hR : rel24 σ τ) (z : Int32) : ∃ σ' τ' n, n ≤ 1 ∧ inv24 σ' T ∧ rel24 σ' τ' ∧ MC l yL_trades wsL_trades 9 187 D (tyIJ cI cJ) [.ref (h 0), .int 0, .int z, .ref (g 1), .ref (g 3), .ref (g 4), .ref (g 5), .ref (g 6)] (wB cI h g σ τ) (wB cI h g σ' τ') none (some (.int 1)) n := by
  obtain ⟨q, e0, hq⟩ := low_x z (n := 4) (by decide)
  obtain ⟨hs, e1, hhs⟩ := low_x (z >>> (2 &&& 31)) (n := 4) (by decide)
  obtain ⟨d0, e2, hd0⟩ := low_x (z >>> (4 &&& 31)) (n := 9) (by decide)
  have hho := home_iff hR hq hN.1
  by_cases hh : τ.2 5 (7 * q + 3) = 0
  · by_cases hc : τ.2 5 (7 * q + 1) < 10
    · obtain ⟨hK, h1, h2⟩ := P_le hN hR hq hhs (d := 1 + d0) (by omega) (by omega) hh hc
      exact ⟨_, _, 1, Nat.le_refl 1, h1, h2, y_lend0 l D cI cJ hst h g σ τ hN.1 z q hs d0 e0 e1 e2 hq hhs hd0 T hT hN.2.2.1 (V_le hR.1 hq) hh hc hK⟩
    · refine ⟨σ, τ, 1, Nat.le_refl 1, hN, hR, y_lendC l D cI cJ hst h g σ τ hN.1 z q hs d0 e0 e1 e2 hq hhs hd0 hh hc ?_⟩
      rw [th_le hq hhs (by omega) (by omega), if_pos (Or.inr (by rw [← hR.1.2.2.2.1 q hq]; exact hc))]
  · refine ⟨σ, τ, 1, Nat.le_refl 1, hN, hR, y_lendA l D cI cJ hst h g σ τ hN.1 z q hs d0 e0 e1 e2 hq hhs hd0 hh ?_⟩
    rw [th_le hq hhs (by omega) (by omega), if_pos (Or.inl (fun w => hh (hho.mpr w)))]
theorem t_se (hst : l.stackTraces = false) (hT : T ≤ 600) (hN : inv24 σ T) (hR : rel24 σ τ) (z : Int32) : ∃ σ' τ' n, n ≤ 1 ∧ inv24 σ' T ∧ rel24 σ' τ' ∧ MC l yL_trades wsL_trades 9 187 D (tyIJ cI cJ) [.ref (h 0), .int 1, .int z, .ref (g 1), .ref (g 3), .ref (g 4), .ref (g 5), .ref (g 6)] (wB cI h g σ τ) (wB cI h g σ' τ') none (some (.int 1)) n := by
  obtain ⟨q, e0, hq⟩ := low_x z (n := 4) (by decide)
  obtain ⟨p0, e1, hp0⟩ := low_x (z >>> (3 &&& 31)) (n := 9000) (by decide)
  have hho := home_iff hR hq hN.1
  by_cases hh : τ.2 5 (7 * q + 3) = 0
  · by_cases hc : ¬ τ.2 5 (7 * q) ≤ 0
    · obtain ⟨hK, h1, h2⟩ := P_se hN hR hq (x := 1 + p0) (by omega) (by omega) hh hc
      exact ⟨_, _, 1, Nat.le_refl 1, h1, h2, y_sell0 l D cI cJ hst h g σ τ hN.1 z q p0 e0 e1 hq hp0 T hT h1.2.2.1 h2.1 hh hc hK⟩
    · have hc' := Classical.not_not.mp hc
      have hx := y_sellL l D cI cJ hst h g σ τ hN.1 z q p0 e0 e1 hq hp0 hh hc' (by
        rw [th_se hq (by omega) (by omega), if_pos]
        obtain ⟨ly, hly, es⟩ := hN.2.2.1.1 q hq
        rw [hR.1.2.2.1 q hq, es] at hc'
        refine Or.inr ?_
        cases ly with
        | zero => rw [es]; rfl
        | succ n => exact absurd hc' (nI_np (by omega)))
      rw [se_same] at hx
      exact ⟨σ, τ, 1, Nat.le_refl 1, hN, hR, hx⟩
  · have hx := y_sellA l D cI cJ hst h g σ τ hN.1 z q p0 e0 e1 hq hp0 hh (by rw [th_se hq (by omega) (by omega), if_pos (Or.inl (fun w => hh (hho.mpr w)))])
    rw [se_same] at hx
    exact ⟨σ, τ, 1, Nat.le_refl 1, hN, hR, hx⟩
theorem t_da (hst : l.stackTraces = false) (hN : inv24 σ T) (hR : rel24 σ τ) (z : Int32) : ∃ σ' τ' n, n ≤ 1 ∧ inv24 σ' T ∧ rel24 σ' τ' ∧ MC l yL_trades wsL_trades 9 187 D (tyIJ cI cJ) [.ref (h 0), .int 2, .int z, .ref (g 1), .ref (g 3), .ref (g 4), .ref (g 5), .ref (g 6)] (wB cI h g σ τ) (wB cI h g σ' τ') none (some (.int 1)) n := by
  obtain ⟨q, e0, hq⟩ := low_x z (n := 4) (by decide)
  obtain ⟨d0, e1, hd0⟩ := low_x (z >>> (3 &&& 31)) (n := 41) (by decide)
  obtain ⟨h1, h2⟩ := P_da hN hR hq (d := 30 + d0) (by omega)
  exact ⟨_, _, 0, Nat.zero_le 1, h1, h2, y_damp l D cI cJ hst h g σ τ hN.1 z q d0 e0 e1 hq hd0 (th_da hq (by omega)) (hR.2.2.2.2.2.2.2.1 q hq).symm⟩
end ALL
