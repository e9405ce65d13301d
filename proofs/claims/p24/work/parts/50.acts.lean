/-! One act of the law: both sides stay the same. -/
theorem nat_of {x : Int32} {M : Nat} (h0 : 0 ≤ x.toInt) (h1 : x.toInt ≤ M) : ∃ j, j ≤ M ∧ x = nI j := by
  obtain ⟨a, ha, e⟩ := nI_of (show ¬ x < 0 by rw [i32_lt, show (0 : Int32).toInt = 0 from rfl]; omega)
  refine ⟨a, ?_, e⟩
  rw [e, nI_toInt ha] at h1; omega
theorem pot_ok {σ τ : gS} {T : Nat} (hN : inv24 σ T) (hR : rel24 σ τ) {x : Nat} (hx : x < 4) : potOK τ x := by
  intro t ht
  have h := hN.2.1.ent (p := x) (t := t) (by omega) (by omega)
  rw [hR.2.2.2.1 x t hx ht]
  exact nat_of h.1 h.2
theorem row_N {σ τ : gS} {T : Nat} (hN : inv24 σ T) (hR : rel24 σ τ) {x : Nat} (hx : x < 4) (k : Nat) (hk : k ≤ 6) : rowS (σ.2 3) x k = nI (potN τ x k) :=
  (pot_row hR hx k hk).symm.trans (potL_N (pot_ok hN hR hx) k hk)
theorem can_N {σ τ : gS} {T : Nat} (hN : inv24 σ T) (hR : rel24 σ τ) {x n : Nat} (hx : x < 4) (hn : n < 2 ^ 31) : nI n ≤ potL τ x 6 ↔ n ≤ potN τ x 6 := by
  have := potN_le (pot_ok hN hR hx) 6 (Nat.le_refl 6)
  rw [potL_N (pot_ok hN hR hx) 6 (Nat.le_refl 6), nI_leI hn (by omega)]
theorem flow_eq {σ τ : gS} {T : Nat} (hN : inv24 σ T) (hR : rel24 σ τ) {x n : Nat} (hx : x < 4) (h1 : 1 ≤ n) (h2 : n ≤ 50) (hS : n ≤ potN τ x 6) (m : Nat) (hm : m < 6) : flw (σ.2 3) x (nI n) (rowS (σ.2 3) x 6) m = flN τ x n m := by
  have e := row_N hN hR hx
  have hP := potN_le (pot_ok hN hR hx)
  have b1 : potN τ x (m + 1) * n < 2 ^ 31 := mul_lt31 (A := 6000) (B := 50) (Nat.le_trans (hP (m + 1) (by omega)) (by omega)) h2 (by decide)
  have b2 : potN τ x m * n < 2 ^ 31 := mul_lt31 (A := 6000) (B := 50) (Nat.le_trans (hP m (by omega)) (by omega)) h2 (by decide)
  have b3 := hP 6 (Nat.le_refl 6)
  have hu : flQ τ x n m ≤ flQ τ x n (m + 1) := flQ_up
  show rowS (σ.2 3) x (m + 1) * nI n / rowS (σ.2 3) x 6 - rowS (σ.2 3) x m * nI n / rowS (σ.2 3) x 6 = nI (flQ τ x n (m + 1) - flQ τ x n m)
  rw [e (m + 1) (by omega), e m (by omega), e 6 (Nat.le_refl 6), pk_mul, pk_mul, pk_div b1 (by omega) (by omega), pk_div b2 (by omega) (by omega)]
  exact pk_sub hu
theorem flN_le {τ : gS} {x n m : Nat} (hm : m < 6) (h0 : 0 < potN τ x 6) : flQ τ x n (m + 1) - flQ τ x n m ≤ n := by
  have := flQ_le (τ := τ) (x := x) (g := n) (n := m + 1) (by omega) h0
  omega
theorem P_sq {σ τ : gS} {T pt tb n : Nat} (hN : inv24 σ T) (hR : rel24 σ τ) (hpt : pt < 4) (htb : tb < 6) (h1 : 1 ≤ n) (h2 : n ≤ 1000) (hc : nI n ≤ τ.2 1 (3 * tb + 1)) :
    0 = th_squeeze σ 6 4 (nI pt) (nI tb) (nI n) ∧ inv24 (s_squeeze σ pt tb (nI n)) T ∧ rel24 (s_squeeze σ pt tb (nI n)) (sA (sA τ 1 (upd (τ.2 1) (3 * tb + 1) (τ.2 1 (3 * tb + 1) - nI n))) 2 (upd (τ.2 2) (6 * pt + tb) (τ.2 2 (6 * pt + tb) + nI n))) := by
  have hK : th_squeeze σ 6 4 (nI pt) (nI tb) (nI n) = 0 := by rw [th_sq hpt htb h1 h2, if_neg]; rw [← hR.2.1 tb htb]; exact not_not_intro hc
  have ho := op_squeeze (RR_ref hN.1 hN.2.1) (nI pt) (nI tb) (nI n)
  rw [hK, cl_nI (n := pt) (by omega), cl_nI (n := tb) (by omega)] at ho
  obtain ⟨iA', nI'⟩ := op_inv4 hN.1 ho rfl rfl rfl rfl
  obtain ⟨⟨v1, v2, v3, v4, v5⟩, r1, r2, r3, r4, r5, r6, r7, r8, r9⟩ := hR
  refine ⟨hK.symm, ⟨iA', nI', hN.2.2.1, hN.2.2.2.1, hN.2.2.2.2⟩, ⟨⟨fun t ht => ?_, fun q k t hq hk ht => ?_, v3, v4, v5⟩, fun t ht => ?_, fun t ht => ?_, fun q t hq ht => ?_, r4, r5, r6, r7, r8, r9⟩⟩
  · show upd (τ.2 1) (3 * tb + 1) _ (3 * t) = σ.2 1 t
    rw [upd_n (by omega)]; exact v1 t ht
  · show grL τ (3 * q + k) t = upd (σ.2 3) (pt * 12 + tb) _ ((10 + q * 12 + k) * 12 + t)
    rw [upd_n (by omega)]; exact v2 q k t hq hk ht
  · show upd (τ.2 1) (3 * tb + 1) _ (3 * t + 1) = upd (σ.2 2) tb _ t
    by_cases e : t = tb
    · subst e; rw [upd_s, upd_s, r1 t ht]
    · rw [upd_n (by omega), upd_n e]; exact r1 t ht
  · show upd (τ.2 1) (3 * tb + 1) _ (3 * t + 2) = upd (σ.2 3) (pt * 12 + tb) _ (106 * 12 + t)
    rw [upd_n (by omega), upd_n (by omega)]; exact r2 t ht
  · show upd (τ.2 2) (6 * pt + tb) _ (6 * q + t) = upd (σ.2 3) (pt * 12 + tb) _ (q * 12 + t)
    by_cases e : q = pt ∧ t = tb
    · obtain ⟨rfl, rfl⟩ := e; rw [upd_s, upd_s, r3 q t hq ht]
    · rw [upd_n (by omega), upd_n (by omega)]; exact r3 q t hq ht
theorem P_po {σ τ : gS} {T pt ot n : Nat} (hN : inv24 σ T) (hR : rel24 σ τ) (hpt : pt < 4) (hot : ot < 4) (hne : pt ≠ ot) (h1 : 1 ≤ n) (h2 : n ≤ 50) (hS : n ≤ potN τ pt 6) :
    0 = th_pour σ 6 4 (nI pt) (nI ot) (nI n) ∧ inv24 (sA σ 3 (mvS σ 6 pt ot (nI n))) T ∧ rel24 (sA σ 3 (mvS σ 6 pt ot (nI n))) (sA (sA τ 7 (fillF (τ.2 7) (flN τ pt n) 6)) 2 (addF (subF (τ.2 2) (fillF (τ.2 7) (flN τ pt n) 6) (6 * pt) 6) (fillF (τ.2 7) (flN τ pt n) 6) (6 * ot) 6)) := by
  have hP := potN_le (pot_ok hN hR hpt) 6 (Nat.le_refl 6)
  have hr6 := row_N hN hR hpt 6 (Nat.le_refl 6)
  have hlt : ¬ rowS (σ.2 3) pt 6 < nI n := by
    rw [hr6]; exact fun z => absurd ((nI_ltI (by omega) (by omega)).mp z) (by omega)
  have hK : th_pour σ 6 4 (nI pt) (nI ot) (nI n) = 0 := by rw [th_po hpt hot hne h1 (by omega), if_neg hlt]
  have hRR := RR_ref hN.1 hN.2.1
  have ho := op_pour hRR (nI pt) (nI ot) (nI n)
  rw [hK, cl_nI (n := pt) (by omega), cl_nI (n := ot) (by omega)] at ho
  obtain ⟨iA', nI'⟩ := op_inv4 hN.1 ho rfl rfl rfl rfl
  have hfe := flow_eq hN hR hpt h1 h2 hS
  have hz := (hRR.flow (x := pt) (by omega) (g := nI n) (by rw [i32_le, nI_toInt (by omega)]; show (1 : Int) ≤ n; omega) hlt).2.2.1
  have hm := fun r m hm => mvS_pt (σ := σ) (nt := 6) (x := pt) (y := ot) (g := nI n) hne (by decide) hz r m hm
  have hF : ∀ t, t < 6 → fillF (τ.2 7) (flN τ pt n) 6 t = flN τ pt n t := fun t ht => fillF_at _ _ _ _ ht
  obtain ⟨⟨v1, v2, v3, v4, v5⟩, r1, r2, r3, r4, r5, r6, r7, r8, r9⟩ := hR
  refine ⟨hK.symm, ⟨iA', nI', hN.2.2.1, hN.2.2.2.1, hN.2.2.2.2⟩, ⟨⟨v1, fun q k t hq hk ht => ?_, v3, v4, v5⟩, r1, fun t ht => ?_, fun q t hq ht => ?_, r4, r5, r6, r7, r8, r9⟩⟩
  · show grL τ (3 * q + k) t = mvS σ 6 pt ot (nI n) ((10 + q * 12 + k) * 12 + t)
    rw [hm _ t (by omega), if_neg (by omega), if_neg (by omega)]; exact v2 q k t hq hk ht
  · show τ.2 1 (3 * t + 2) = mvS σ 6 pt ot (nI n) (106 * 12 + t)
    rw [hm _ t (by omega), if_neg (by omega), if_neg (by omega)]; exact r2 t ht
  · show addF _ _ (6 * ot) 6 (6 * q + t) = mvS σ 6 pt ot (nI n) (q * 12 + t)
    rw [addF6_pt _ _ _ 6 (Nat.le_refl 6) q t ht, subF6_pt _ _ _ 6 (Nat.le_refl 6) q t ht, hm _ t (by omega), hfe t ht, hF t ht, r3 q t hq ht]
    by_cases a : q = pt
    · subst a; rw [if_neg (fun z => hne z.1), if_pos ⟨rfl, ht⟩, if_pos rfl]
    · by_cases b : q = ot
      · rw [if_pos ⟨b, ht⟩, if_neg (fun z => a z.1), if_neg a, if_pos b]
      · rw [if_neg (fun z => b z.1), if_neg (fun z => a z.1), if_neg a, if_neg b]
theorem P_sc {σ τ : gS} {T pt : Nat} (hN : inv24 σ T) (hR : rel24 σ τ) (hpt : pt < 4) :
    inv24 (sA σ 3 (wzL (σ.2 3) pt 6)) T ∧ rel24 (sA σ 3 (wzL (σ.2 3) pt 6)) (sA (sA τ 1 (wasT (τ.2 1) (fun n => τ.2 2 (6 * pt + n)) 6)) 2 (zerB (τ.2 2) (6 * pt) 6)) := by
  have ho := op_scrape (RR_ref hN.1 hN.2.1) (nI pt)
  rw [← th_sc hpt, cl_nI (n := pt) (by omega)] at ho
  obtain ⟨iA', nI'⟩ := op_inv4 hN.1 ho rfl rfl rfl rfl
  have hw := fun r m hm => wzL_u (L := σ.2 3) (f := pt) (N := 6) (by omega) (by decide) (fun m h1 h2 => hN.2.1.2.2.1 pt m (by omega) h2 (Or.inl h1)) r m hm
  obtain ⟨⟨v1, v2, v3, v4, v5⟩, r1, r2, r3, r4, r5, r6, r7, r8, r9⟩ := hR
  refine ⟨⟨iA', nI', hN.2.2.1, hN.2.2.2.1, hN.2.2.2.2⟩, ⟨⟨fun t ht => ?_, fun q k t hq hk ht => ?_, v3, v4, v5⟩, fun t ht => ?_, fun t ht => ?_, fun q t hq ht => ?_, r4, r5, r6, r7, r8, r9⟩⟩
  · show wasT _ _ 6 (3 * t) = σ.2 1 t
    rw [wasT_0]; exact v1 t ht
  · show grL τ (3 * q + k) t = wzL (σ.2 3) pt 6 ((10 + q * 12 + k) * 12 + t)
    rw [hw _ t (by omega), if_neg (by omega), if_neg (by omega)]; exact v2 q k t hq hk ht
  · show wasT _ _ 6 (3 * t + 1) = σ.2 2 t
    rw [wasT_1]; exact r1 t ht
  · show wasT _ _ 6 (3 * t + 2) = wzL (σ.2 3) pt 6 (106 * 12 + t)
    rw [wasT_2, if_pos ht, hw _ t (by omega), if_neg (by omega), if_pos rfl, r2 t ht, r3 pt t hpt ht]
  · show zerB _ (6 * pt) 6 (6 * q + t) = wzL (σ.2 3) pt 6 (q * 12 + t)
    rw [zerB6_pt _ _ 6 (Nat.le_refl 6) q t ht, hw _ t (by omega), r3 q t hq ht]
    by_cases a : q = pt
    · rw [if_pos ⟨a, ht⟩, if_pos a]
    · rw [if_neg (fun z => a z.1), if_neg a, if_neg (by omega)]
/-! a layer's rows as numbers -/
theorem enc_N (a b c : Nat) : nI a + 1024 * nI b + 1048576 * nI c = nI (a + 1024 * b + 1048576 * c) := by
  rw [show (1024 : Int32) = nI 1024 from rfl, show (1048576 : Int32) = nI 1048576 from rfl, pk_mul, pk_mul, nI_add, nI_add]
theorem dec_0 {v : Nat} (h : v < 2 ^ 31) : (nI v >>> (nI 0 &&& 31)) &&& 1023 = nI (v % 1024) := by
  rw [pk_shrN h (nI 0 &&& 31) 0 (by decide), pk_andN (n := v / 2 ^ 0) (by omega) 10 (by decide), Nat.pow_zero, Nat.div_one]
theorem dec_1 {v : Nat} (h : v < 2 ^ 31) : (nI v >>> (nI 10 &&& 31)) &&& 1023 = nI (v / 1024 % 1024) := by
  rw [pk_shrN h (nI 10 &&& 31) 10 (by decide), pk_andN (n := v / 2 ^ 10) (by omega) 10 (by decide)]
theorem dec_2 {v : Nat} (h : v < 2 ^ 31) : (nI v >>> (nI 20 &&& 31)) &&& 1023 = nI (v / 1048576 % 1024) := by
  rw [pk_shrN h (nI 20 &&& 31) 20 (by decide), pk_andN (n := v / 2 ^ 20) (by omega) 10 (by decide)]
theorem gr_dec {τ : gS} {k : Nat} {f : Nat → Nat} (hf : ∀ i, i < 6 → f i < 1024) (h3 : τ.2 3 k = nI (f 0) + 1024 * nI (f 1) + 1048576 * nI (f 2)) (h4 : τ.2 4 k = nI (f 3) + 1024 * nI (f 4) + 1048576 * nI (f 5)) : ∀ t, t < 6 → grL τ k t = nI (f t) := by
  have f0 := hf 0 (by decide); have f1 := hf 1 (by decide); have f2 := hf 2 (by decide)
  have f3 := hf 3 (by decide); have f4 := hf 4 (by decide); have f5 := hf 5 (by decide)
  rw [enc_N] at h3 h4
  intro t ht
  match t, ht with
  | 0, _ =>
    show (τ.2 3 k >>> (nI 0 &&& 31)) &&& 1023 = nI (f 0)
    rw [h3, dec_0 (by omega)]; congr 1; omega
  | 1, _ =>
    show (τ.2 3 k >>> (nI 10 &&& 31)) &&& 1023 = nI (f 1)
    rw [h3, dec_1 (by omega)]; congr 1; omega
  | 2, _ =>
    show (τ.2 3 k >>> (nI 20 &&& 31)) &&& 1023 = nI (f 2)
    rw [h3, dec_2 (by omega)]; congr 1; omega
  | 3, _ =>
    show (τ.2 4 k >>> (nI 0 &&& 31)) &&& 1023 = nI (f 3)
    rw [h4, dec_0 (by omega)]; congr 1; omega
  | 4, _ =>
    show (τ.2 4 k >>> (nI 10 &&& 31)) &&& 1023 = nI (f 4)
    rw [h4, dec_1 (by omega)]; congr 1; omega
  | 5, _ =>
    show (τ.2 4 k >>> (nI 20 &&& 31)) &&& 1023 = nI (f 5)
    rw [h4, dec_2 (by omega)]; congr 1; omega
theorem grl_0 {τ : gS} {k : Nat} (h3 : τ.2 3 k = 0) (h4 : τ.2 4 k = 0) (t : Nat) (ht : t < 6) : grL τ k t = 0 := by
  match t, ht with
  | 0, _ => show (τ.2 3 k >>> (nI 0 &&& 31)) &&& 1023 = 0; rw [h3]; decide
  | 1, _ => show (τ.2 3 k >>> (nI 10 &&& 31)) &&& 1023 = 0; rw [h3]; decide
  | 2, _ => show (τ.2 3 k >>> (nI 20 &&& 31)) &&& 1023 = 0; rw [h3]; decide
  | 3, _ => show (τ.2 4 k >>> (nI 0 &&& 31)) &&& 1023 = 0; rw [h4]; decide
  | 4, _ => show (τ.2 4 k >>> (nI 10 &&& 31)) &&& 1023 = 0; rw [h4]; decide
  | 5, _ => show (τ.2 4 k >>> (nI 20 &&& 31)) &&& 1023 = 0; rw [h4]; decide
theorem gr_cg {τ τ' : gS} {k : Nat} (h3 : τ'.2 3 k = τ.2 3 k) (h4 : τ'.2 4 k = τ.2 4 k) (t : Nat) : grL τ' k t = grL τ k t := by
  rw [grL, grL, h3, h4]
theorem P_pa {σ τ : gS} {T pt q n ly : Nat} {v3 v4 : Int32} (hN : inv24 σ T) (hR : rel24 σ τ) (hpt : pt < 4) (hq : q < 4) (h1 : 1 ≤ n) (h2 : n ≤ 40) (hS : n ≤ potN τ pt 6) (el : τ.2 5 (7 * q) = nI ly) (hl : ly < 3) (hh : τ.2 5 (7 * q + 3) = 0)
    (e3 : flN τ pt n 0 + 1024 * flN τ pt n 1 + 1048576 * flN τ pt n 2 = v3) (e4 : flN τ pt n 3 + 1024 * flN τ pt n 4 + 1048576 * flN τ pt n 5 = v4) :
    0 = th_paint σ 6 4 4 (nI q) (nI pt) (nI n) ∧ nI (cl (σ.2 4 q) + 1) = nI (ly + 1) ∧ inv24 (s_paint σ 6 q pt (nI n)) T ∧ rel24 (s_paint σ 6 q pt (nI n)) (sA (sA (sA (sA (sA τ 7 (fillF (τ.2 7) (flN τ pt n) 6)) 2 (subF (τ.2 2) (fillF (τ.2 7) (flN τ pt n) 6) (6 * pt) 6)) 3 (upd (τ.2 3) (3 * q + ly) v3)) 4 (upd (τ.2 4) (3 * q + ly) v4)) 5 (upd (τ.2 5) (7 * q) (nI (ly + 1)))) := by
  have hP := potN_le (pot_ok hN hR hpt) 6 (Nat.le_refl 6)
  have hr6 := row_N hN hR hpt 6 (Nat.le_refl 6)
  have hlt : ¬ rowS (σ.2 3) pt 6 < nI n := by
    rw [hr6]; exact fun z => absurd ((nI_ltI (by omega) (by omega)).mp z) (by omega)
  have es : σ.2 4 q = nI ly := (hR.1.2.2.1 q hq).symm.trans el
  have hK : th_paint σ 6 4 4 (nI q) (nI pt) (nI n) = 0 := by
    rw [th_pa hq hpt h1 (by omega), if_neg]
    rintro (z | z | z)
    · exact z ((home_iff hR hq hN.1).mp hh)
    · exact z (by rw [es]; exact (nI_ltI (a := ly) (b := 12) (by omega) (by decide)).mpr (by omega))
    · exact hlt z
  have hRR := RR_ref hN.1 hN.2.1
  have ho := op_paint hRR (nI q) (nI pt) (nI n)
  rw [hK, cl_nI (n := q) (by omega), cl_nI (n := pt) (by omega)] at ho
  obtain ⟨iA', nI'⟩ := op_inv4 hN.1 ho rfl rfl rfl rfl
  have hfe := flow_eq hN hR hpt h1 (by omega) hS
  have hz := (hRR.flow (x := pt) (by omega) (g := nI n) (by rw [i32_le, nI_toInt (by omega)]; show (1 : Int) ≤ n; omega) hlt).2.2.1
  have hm := fun r m hm => mvS_pt (σ := σ) (nt := 6) (x := pt) (y := 10 + q * 12 + ly) (g := nI n) (by omega) (by decide) hz r m hm
  have hF : ∀ t, t < 6 → fillF (τ.2 7) (flN τ pt n) 6 t = flN τ pt n t := fun t ht => fillF_at _ _ _ _ ht
  have ecl : cl (σ.2 4 q) = ly := by rw [es, cl_nI (by omega)]
  have hzr : ∀ t, t < 6 → σ.2 3 ((10 + q * 12 + ly) * 12 + t) = 0 := fun t ht => hN.2.1.2.2.2.2.1 q ly t (by omega) (by omega) (by omega) (Or.inr (by rw [ecl]; exact Nat.le_refl _))
  have hb : ∀ i, i < 6 → flQ τ pt n (i + 1) - flQ τ pt n i < 1024 := fun i hi => by
    have := flN_le (τ := τ) (x := pt) (n := n) hi (by omega); omega
  have hsm := hN.2.2.1
  obtain ⟨⟨v1, v2, w3, w4, w5⟩, r1, r2, r3, r4, r5, r6, r7, r8, r9⟩ := hR
  have es' : s_paint σ 6 q pt (nI n) = sA (sA σ 3 (mvS σ 6 pt (10 + q * 12 + ly) (nI n))) 4 (upd (σ.2 4) q (nI (ly + 1))) := by rw [s_paint, ecl]
  refine ⟨hK.symm, by rw [ecl], ?_, ?_⟩
  · refine ⟨iA', nI', ⟨fun p hp => ?_, hsm.2.1, hsm.2.2⟩, hN.2.2.2.1, fun p h1 h2 => ?_⟩
    · rw [es']
      show ∃ j, j ≤ 3 ∧ upd (σ.2 4) q (nI (ly + 1)) p = nI j
      by_cases e : p = q
      · subst e; exact ⟨ly + 1, by omega, by rw [upd_s]⟩
      · rw [upd_n e]; exact hsm.1 p hp
    · rw [es']
      show upd (σ.2 4) q (nI (ly + 1)) p = 0
      rw [upd_n (by omega)]; exact hN.2.2.2.2 p h1 h2
  · rw [es']
    refine ⟨⟨v1, fun p k t hp hk ht => ?_, fun p hp => ?_, fun p hp => ?_, fun p hp => ?_⟩, r1, fun t ht => ?_, fun p t hp ht => ?_, fun p hp => ?_, fun p hp => ?_, fun p hp => ?_, r7, r8, r9⟩
    · show grL _ (3 * p + k) t = mvS σ 6 pt (10 + q * 12 + ly) (nI n) ((10 + p * 12 + k) * 12 + t)
      rw [hm _ t (by omega), if_neg (by omega)]
      by_cases e : p = q ∧ k = ly
      · obtain ⟨rfl, rfl⟩ := e
        rw [if_pos rfl, hzr t ht, Int32.zero_add, hfe t ht]
        exact gr_dec (f := fun i => flQ τ pt n (i + 1) - flQ τ pt n i) hb (by show upd (τ.2 3) (3 * p + k) v3 (3 * p + k) = _; rw [upd_s, ← e3]; rfl) (by show upd (τ.2 4) (3 * p + k) v4 (3 * p + k) = _; rw [upd_s, ← e4]; rfl) t ht
      · rw [if_neg (by omega)]
        refine Eq.trans (gr_cg (τ := τ) ?_ ?_ t) (v2 p k t hp hk ht)
        · show upd (τ.2 3) (3 * q + ly) v3 (3 * p + k) = _
          rw [upd_n (by omega)]
        · show upd (τ.2 4) (3 * q + ly) v4 (3 * p + k) = _
          rw [upd_n (by omega)]
    · show upd (τ.2 5) (7 * q) _ (7 * p) = upd (σ.2 4) q _ p
      by_cases e : p = q
      · subst e; rw [upd_s, upd_s]
      · rw [upd_n (by omega), upd_n e]; exact w3 p hp
    · show upd (τ.2 5) (7 * q) _ (7 * p + 1) = σ.2 5 p
      rw [upd_n (by omega)]; exact w4 p hp
    · show upd (τ.2 5) (7 * q) _ (7 * p + 2) = σ.2 6 p
      rw [upd_n (by omega)]; exact w5 p hp
    · show τ.2 1 (3 * t + 2) = mvS σ 6 pt (10 + q * 12 + ly) (nI n) (106 * 12 + t)
      rw [hm _ t (by omega), if_neg (by omega), if_neg (by omega)]; exact r2 t ht
    · show subF _ _ (6 * pt) 6 (6 * p + t) = mvS σ 6 pt (10 + q * 12 + ly) (nI n) (p * 12 + t)
      rw [subF6_pt _ _ _ 6 (Nat.le_refl 6) p t ht, hm _ t (by omega), hfe t ht, hF t ht, r3 p t hp ht]
      by_cases a : p = pt
      · rw [if_pos ⟨a, ht⟩, if_pos a]
      · rw [if_neg (fun z => a z.1), if_neg a, if_neg (by omega)]
    · show upd (τ.2 5) (7 * q) _ (7 * p + 3) = hsL σ p
      rw [upd_n (by omega)]; exact r4 p hp
    · show upd (τ.2 5) (7 * q) _ (7 * p + 4) = σ.2 7 p
      rw [upd_n (by omega)]; exact r5 p hp
    · show upd (τ.2 5) (7 * q) _ (7 * p + 5) = σ.2 9 p
      rw [upd_n (by omega)]; exact r6 p hp
