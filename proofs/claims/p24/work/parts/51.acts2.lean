/-! Acts: cleaning, loans, sales, damp. -/
theorem cl_rel {σ τ : gS} {T q ly : Nat} (hN : inv24 σ T) (hR : rel24 σ τ) (hq : q < 4) (el : τ.2 5 (7 * q) = nI ly) (hl : ly ≤ 3) : ∀ k, k ≤ ly →
    (∀ t, t < 6 → (cl24 τ q ly k).2 1 (3 * t) = τ.2 1 (3 * t)) ∧ (∀ t, t < 6 → (cl24 τ q ly k).2 1 (3 * t + 1) = τ.2 1 (3 * t + 1)) ∧ (∀ t, t < 6 → (cl24 τ q ly k).2 1 (3 * t + 2) = clL (σ.2 3) 6 q ly k (106 * 12 + t)) ∧
    (∀ p j t, p < 4 → j < 3 → t < 6 → grL (cl24 τ q ly k) (3 * p + j) t = clL (σ.2 3) 6 q ly k ((10 + p * 12 + j) * 12 + t)) ∧
    (cl24 τ q ly k).2 0 = τ.2 0 ∧ (cl24 τ q ly k).2 2 = τ.2 2 ∧ (cl24 τ q ly k).2 6 = τ.2 6 ∧ (∀ i, (cl24 τ q ly k).2 5 i = if i = 7 * q then nI (ly - k) else τ.2 5 i) ∧
    clU τ q ly k = clS (σ.2 3) 6 q ly k
  | 0, _ => by
    refine ⟨fun _ _ => rfl, fun _ _ => rfl, hR.2.2.1, hR.1.2.1, rfl, rfl, rfl, fun i => ?_, rfl⟩
    show τ.2 5 i = _
    by_cases e : i = 7 * q
    · rw [if_pos e, e]; exact el
    · rw [if_neg e]
  | k + 1, hk => by
    have es : σ.2 4 q = nI ly := (hR.1.2.2.1 q hq).symm.trans el
    have ecl : cl (σ.2 4 q) = ly := by rw [es, cl_nI (by omega)]
    obtain ⟨i1, i2, i3, i4, i5, i6, i7, i8, i9⟩ := cl_rel hN hR hq el hl k (by omega)
    have hcf := (clean_k (RR_ref hN.1 hN.2.1) (b := q) (lc := ly) (by omega) ecl (by omega) k (by omega)).2.2.1
    have hz : ∀ m, 6 ≤ m → m < 12 → clL (σ.2 3) 6 q ly k ((10 + q * 12 + (ly - k - 1)) * 12 + m) = 0 := fun m h1 h2 => by
      rw [hcf _ m h2 (by omega), if_neg (by omega)]
      exact hN.2.1.2.2.2.2.1 q (ly - k - 1) m (by omega) (by omega) h2 (Or.inl h1)
    have hw := fun r m hm => wzL_u (L := clL (σ.2 3) 6 q ly k) (f := 10 + q * 12 + (ly - k - 1)) (N := 6) (by omega) (by decide) hz r m hm
    rw [cl24, clL, clU, clS]
    refine ⟨fun t ht => ?_, fun t ht => ?_, fun t ht => ?_, fun p j t hp hj ht => ?_, i5, i6, i7, fun i => ?_, ?_⟩
    · show wasT _ _ 6 (3 * t) = _
      rw [wasT_0]; exact i1 t ht
    · show wasT _ _ 6 (3 * t + 1) = _
      rw [wasT_1]; exact i2 t ht
    · show wasT _ _ 6 (3 * t + 2) = _
      rw [wasT_2, if_pos ht, hw _ t (by omega), if_neg (by omega), if_pos rfl, i3 t ht]
      rw [i4 q (ly - k - 1) t hq (by omega) ht]
    · rw [hw _ t (by omega)]
      by_cases e : p = q ∧ j = ly - k - 1
      · obtain ⟨rfl, rfl⟩ := e
        rw [if_pos rfl]
        refine grl_0 ?_ ?_ t ht
        · show upd _ (3 * p + (ly - k - 1)) 0 (3 * p + (ly - k - 1)) = 0
          rw [upd_s]
        · show upd _ (3 * p + (ly - k - 1)) 0 (3 * p + (ly - k - 1)) = 0
          rw [upd_s]
      · rw [if_neg (by omega), if_neg (by omega)]
        refine Eq.trans (gr_cg (τ := cl24 τ q ly k) ?_ ?_ t) (i4 p j t hp hj ht)
        · show upd ((cl24 τ q ly k).2 3) (3 * q + (ly - k - 1)) 0 (3 * p + j) = _
          rw [upd_n (by omega)]
        · show upd ((cl24 τ q ly k).2 4) (3 * q + (ly - k - 1)) 0 (3 * p + j) = _
          rw [upd_n (by omega)]
    · show upd ((cl24 τ q ly k).2 5) (7 * q) (nI (ly - k - 1)) i = _
      by_cases e : i = 7 * q
      · subst e; rw [upd_s, if_pos rfl]; rfl
      · rw [upd_n e, i8 i, if_neg e, if_neg e]
    · rw [i9]
      congr 1
      exact isum_cg 6 fun t ht => i4 q (ly - k - 1) t hq (by omega) ht
theorem P_cl {σ τ : gS} {T q n ly : Nat} (hN : inv24 σ T) (hR : rel24 σ τ) (hq : q < 4) (h1 : 1 ≤ n) (hn : n ≤ ly) (el : τ.2 5 (7 * q) = nI ly) (hl : ly ≤ 3) (hh : τ.2 5 (7 * q + 3) = 0) :
    0 = th_clean σ 4 (nI q) (nI n) ∧ clS (σ.2 3) 6 q (cl (σ.2 4 q)) n = clU τ q ly n ∧ inv24 (s_clean σ 6 q n) T ∧ rel24 (s_clean σ 6 q n) (cl24 τ q ly n) := by
  have es : σ.2 4 q = nI ly := (hR.1.2.2.1 q hq).symm.trans el
  have ecl : cl (σ.2 4 q) = ly := by rw [es, cl_nI (by omega)]
  have hK : th_clean σ 4 (nI q) (nI n) = 0 := by
    rw [th_cl hq h1 (by omega), if_neg]
    rintro (z | z)
    · exact z ((home_iff hR hq hN.1).mp hh)
    · exact z (by rw [es]; exact (nI_leI (by omega) (by omega)).mpr hn)
  have hRR := RR_ref hN.1 hN.2.1
  have ho := op_clean hRR (nI q) (nI n)
  rw [hK, cl_nI (n := q) (by omega), cl_nI (n := n) (by omega)] at ho
  obtain ⟨iA', nI'⟩ := op_inv4 hN.1 ho rfl rfl rfl rfl
  obtain ⟨c1, c2, c3, c4, c5, c6, c7, c8, c9⟩ := cl_rel hN hR hq el hl n hn
  have hcf := (clean_k hRR (b := q) (lc := ly) (by omega) ecl (by omega) n hn).2.2.1
  have hsm := hN.2.2.1
  obtain ⟨⟨v1, v2, w3, w4, w5⟩, r1, r2, r3, r4, r5, r6, r7, r8, r9⟩ := hR
  have es' : s_clean σ 6 q n = sA (sA σ 3 (clL (σ.2 3) 6 q ly n)) 4 (upd (σ.2 4) q (nI (ly - n))) := by rw [s_clean, ecl]
  refine ⟨hK.symm, by rw [ecl, c9], ?_, ?_⟩
  · refine ⟨iA', nI', ⟨fun p hp => ?_, hsm.2.1, hsm.2.2⟩, hN.2.2.2.1, fun p h1 h2 => ?_⟩
    · rw [es']
      show ∃ j, j ≤ 3 ∧ upd (σ.2 4) q (nI (ly - n)) p = nI j
      by_cases e : p = q
      · subst e; exact ⟨ly - n, by omega, by rw [upd_s]⟩
      · rw [upd_n e]; exact hsm.1 p hp
    · rw [es']
      show upd (σ.2 4) q (nI (ly - n)) p = 0
      rw [upd_n (by omega)]; exact hN.2.2.2.2 p h1 h2
  · rw [es']
    refine ⟨⟨fun t ht => (c1 t ht).trans (v1 t ht), c4, fun p hp => ?_, fun p hp => ?_, fun p hp => ?_⟩, fun t ht => (c2 t ht).trans (r1 t ht), c3, fun p t hp ht => ?_, fun p hp => ?_, fun p hp => ?_, fun p hp => ?_, fun h hh => ?_, fun h hh => ?_, fun i hi => ?_⟩
    · rw [c8]
      show _ = upd (σ.2 4) q (nI (ly - n)) p
      by_cases e : p = q
      · subst e; rw [upd_s, if_pos rfl]
      · rw [upd_n e, if_neg (by omega)]; exact w3 p hp
    · rw [c8, if_neg (by omega)]; exact w4 p hp
    · rw [c8, if_neg (by omega)]; exact w5 p hp
    · rw [c6]
      show _ = clL (σ.2 3) 6 q ly n (p * 12 + t)
      rw [hcf _ t (by omega) (by omega), if_neg (by omega)]; exact r3 p t hp ht
    · rw [c8, if_neg (by omega)]; exact r4 p hp
    · rw [c8, if_neg (by omega)]; exact r5 p hp
    · rw [c8, if_neg (by omega)]; exact r6 p hp
    · rw [c7]; exact r7 h hh
    · rw [c7]; exact r8 h hh
    · rw [c5]; exact r9 i hi
theorem V_le {σ τ : gS} {q : Nat} {a b : Int32} (hV : relV σ τ) (hq : q < 4) : relV σ (sA τ 5 (upd (upd (τ.2 5) (7 * q + 3) a) (7 * q + 4) b)) := by
  obtain ⟨v1, v2, w3, w4, w5⟩ := hV
  refine ⟨v1, v2, fun p hp => ?_, fun p hp => ?_, fun p hp => ?_⟩
  · show upd (upd _ _ _) _ _ (7 * p) = _
    rw [upd_n (by omega), upd_n (by omega)]; exact w3 p hp
  · show upd (upd _ _ _) _ _ (7 * p + 1) = _
    rw [upd_n (by omega), upd_n (by omega)]; exact w4 p hp
  · show upd (upd _ _ _) _ _ (7 * p + 2) = _
    rw [upd_n (by omega), upd_n (by omega)]; exact w5 p hp
theorem P_le {σ τ : gS} {T q hs d : Nat} (hN : inv24 σ T) (hR : rel24 σ τ) (hq : q < 4) (hhs : hs < 4) (h1 : 1 ≤ d) (h2 : d ≤ 100) (hh : τ.2 5 (7 * q + 3) = 0) (hc : τ.2 5 (7 * q + 1) < 10) :
    0 = th_lend σ 4 (nI q) (nI hs) (nI d) ∧ inv24 (s_lend σ 4 6 4 q hs (nI d)) T ∧ rel24 (s_lend σ 4 6 4 q hs (nI d)) (sA τ 5 (upd (upd (upd (τ.2 5) (7 * q + 3) (nI (hs + 1))) (7 * q + 4) (nI d)) (7 * q + 5) (1 + valA σ 4 6 4 q / 100))) := by
  have hK : th_lend σ 4 (nI q) (nI hs) (nI d) = 0 := by
    rw [th_le hq hhs h1 h2, if_neg]
    rintro (z | z)
    · exact z ((home_iff hR hq hN.1).mp hh)
    · exact z (by rw [← hR.1.2.2.2.1 q hq]; exact hc)
  have ho := op_lend (RR_ref hN.1 hN.2.1) (nI q) (nI hs) (nI d)
  rw [hK, cl_nI (n := q) (by omega), cl_nI (n := hs) (by omega)] at ho
  obtain ⟨iA', nI'⟩ := op_inv4 hN.1 ho rfl rfl rfl rfl
  obtain ⟨⟨v1, v2, w3, w4, w5⟩, r1, r2, r3, r4, r5, r6, r7, r8, r9⟩ := hR
  refine ⟨hK.symm, ⟨iA', nI', hN.2.2.1, hN.2.2.2.1, hN.2.2.2.2⟩, ⟨⟨v1, v2, fun p hp => ?_, fun p hp => ?_, fun p hp => ?_⟩, r1, r2, r3, fun p hp => ?_, fun p hp => ?_, fun p hp => ?_, r7, r8, r9⟩⟩
  · show upd (upd (upd _ _ _) _ _) _ _ (7 * p) = _
    rw [upd_n (by omega), upd_n (by omega), upd_n (by omega)]; exact w3 p hp
  · show upd (upd (upd _ _ _) _ _) _ _ (7 * p + 1) = _
    rw [upd_n (by omega), upd_n (by omega), upd_n (by omega)]; exact w4 p hp
  · show upd (upd (upd _ _ _) _ _) _ _ (7 * p + 2) = _
    rw [upd_n (by omega), upd_n (by omega), upd_n (by omega)]; exact w5 p hp
  · show upd (upd (upd _ _ _) _ _) _ _ (7 * p + 3) = if ¬ upd (σ.2 7) q (nI d) p ≤ 0 then nI (cl (upd (σ.2 8) q (nI hs) p) + 1) else 0
    rw [upd_n (by omega), upd_n (by omega)]
    by_cases e : p = q
    · subst e
      rw [upd_s, upd_s, upd_s, cl_nI (by omega), if_pos]
      rw [i32_le, nI_toInt (by omega), show (0 : Int32).toInt = 0 from rfl]; omega
    · rw [upd_n (by omega), upd_n e, upd_n e]; exact r4 p hp
  · show upd (upd (upd _ _ _) _ _) _ _ (7 * p + 4) = upd (σ.2 7) q (nI d) p
    rw [upd_n (by omega)]
    by_cases e : p = q
    · subst e; rw [upd_s, upd_s]
    · rw [upd_n (by omega), upd_n (by omega), upd_n e]; exact r5 p hp
  · show upd (upd (upd _ _ _) _ _) _ _ (7 * p + 5) = upd (σ.2 9) q (valA σ 4 6 4 q / 100 + 1) p
    by_cases e : p = q
    · subst e; rw [upd_s, upd_s]; exact Int32.add_comm _ _
    · rw [upd_n (by omega), upd_n (by omega), upd_n (by omega), upd_n e]; exact r6 p hp
theorem P_se {σ τ : gS} {T q x : Nat} (hN : inv24 σ T) (hR : rel24 σ τ) (hq : q < 4) (h1 : 1 ≤ x) (h2 : x ≤ 9000) (hh : τ.2 5 (7 * q + 3) = 0) (hc : ¬ τ.2 5 (7 * q) ≤ 0) :
    0 = th_sell σ 4 (nI q) (nI x) ∧ inv24 (s_sell σ q (nI x)) T ∧ rel24 (s_sell σ q (nI x)) (sA τ 5 (upd (τ.2 5) (7 * q + 2) (nI x))) := by
  have hK : th_sell σ 4 (nI q) (nI x) = 0 := by
    rw [th_se hq h1 (by omega), if_neg]
    rintro (z | z)
    · exact z ((home_iff hR hq hN.1).mp hh)
    · exact hc (by rw [hR.1.2.2.1 q hq, z]; decide)
  have ho := op_sell (RR_ref hN.1 hN.2.1) (nI q) (nI x)
  rw [hK, cl_nI (n := q) (by omega)] at ho
  obtain ⟨iA', nI'⟩ := op_inv4 hN.1 ho rfl rfl rfl rfl
  obtain ⟨⟨v1, v2, w3, w4, w5⟩, r1, r2, r3, r4, r5, r6, r7, r8, r9⟩ := hR
  refine ⟨hK.symm, ⟨iA', nI', ⟨hN.2.2.1.1, hN.2.2.1.2.1, fun p hp => ?_⟩, hN.2.2.2.1, hN.2.2.2.2⟩, ⟨⟨v1, v2, fun p hp => ?_, fun p hp => ?_, fun p hp => ?_⟩, r1, r2, r3, fun p hp => ?_, fun p hp => ?_, fun p hp => ?_, r7, r8, r9⟩⟩
  · show ∃ j, j ≤ 9000 ∧ upd (σ.2 6) q (nI x) p = nI j
    by_cases e : p = q
    · subst e; exact ⟨x, h2, by rw [upd_s]⟩
    · rw [upd_n e]; exact hN.2.2.1.2.2 p hp
  · show upd _ _ _ (7 * p) = _
    rw [upd_n (by omega)]; exact w3 p hp
  · show upd _ _ _ (7 * p + 1) = _
    rw [upd_n (by omega)]; exact w4 p hp
  · show upd _ _ _ (7 * p + 2) = upd (σ.2 6) q (nI x) p
    by_cases e : p = q
    · subst e; rw [upd_s, upd_s]
    · rw [upd_n (by omega), upd_n e]; exact w5 p hp
  · show upd _ _ _ (7 * p + 3) = hsL σ p
    rw [upd_n (by omega)]; exact r4 p hp
  · show upd _ _ _ (7 * p + 4) = _
    rw [upd_n (by omega)]; exact r5 p hp
  · show upd _ _ _ (7 * p + 5) = _
    rw [upd_n (by omega)]; exact r6 p hp
theorem P_da {σ τ : gS} {T q d : Nat} (hN : inv24 σ T) (hR : rel24 σ τ) (hq : q < 4) (h2 : d ≤ 100) :
    inv24 (sA σ 10 (upd (σ.2 10) q (nI d))) T ∧ rel24 (sA σ 10 (upd (σ.2 10) q (nI d))) (sA τ 6 (upd (τ.2 6) q (nI d))) := by
  have ho := op_damp (RR_ref hN.1 hN.2.1) (nI q) (nI d)
  rw [← th_da hq h2, cl_nI (n := q) (by omega)] at ho
  obtain ⟨iA', nI'⟩ := op_inv4 hN.1 ho rfl rfl rfl rfl
  obtain ⟨hV, r1, r2, r3, r4, r5, r6, r7, r8, r9⟩ := hR
  refine ⟨⟨iA', nI', hN.2.2.1, hN.2.2.2.1, hN.2.2.2.2⟩, ⟨hV, r1, r2, r3, r4, r5, r6, fun h hh => ?_, fun h hh => ?_, r9⟩⟩
  · show upd (τ.2 6) q (nI d) h = upd (σ.2 10) q (nI d) h
    by_cases e : h = q
    · subst e; rw [upd_s, upd_s]
    · rw [upd_n e, upd_n e]; exact r7 h hh
  · show upd (τ.2 6) q (nI d) (4 + h) = σ.2 11 h
    rw [upd_n (by omega)]; exact r8 h hh
