/-! pouring, painting, scraping, cleaning -/
theorem RR.flow {σ τ : gS} {np nt no ni : Nat} (h : RR σ τ np nt no ni) {x : Nat} (hx : x < 10) {g : Int32} (h1 : 1 ≤ g) (h2 : ¬ rowS (σ.2 3) x nt < g) :
    (∀ n, n < 12 → flwF τ x g n = flw (σ.2 3) x g (rowS (σ.2 3) x nt) n) ∧
    (∀ n, n < 12 → 0 ≤ (flw (σ.2 3) x g (rowS (σ.2 3) x nt) n).toInt ∧ (flw (σ.2 3) x g (rowS (σ.2 3) x nt) n).toInt ≤ (σ.2 3 (x * 12 + n)).toInt) ∧
    (∀ n, nt ≤ n → n < 12 → flw (σ.2 3) x g (rowS (σ.2 3) x nt) n = 0) ∧
    zsum (fun n => (flw (σ.2 3) x g (rowS (σ.2 3) x nt) n).toInt) nt = g.toInt := by
  have hp := h.pt
  have hent : ∀ i, i < 12 → 0 ≤ (σ.2 3 (x * 12 + i)).toInt ∧ (σ.2 3 (x * 12 + i)).toInt ≤ 1000 := fun i hi => h.2.2.1.ent hx hi
  rw [i32_le] at h1
  rw [i32_lt] at h2
  have h4 : (1 : Int32).toInt = 1 := rfl
  have hz : ∀ n, nt ≤ n → n < 12 → σ.2 3 (x * 12 + n) = 0 := fun n ha hb => h.2.2.1.2.2.1 x n hx hb (Or.inl ha)
  have hfl : ∀ n, flw (σ.2 3) x g (rowS (σ.2 3) x nt) n = fG (fun t => σ.2 3 (x * 12 + t)) g (isum (fun t => σ.2 3 (x * 12 + t)) nt) n := fun _ => rfl
  have h2' : g.toInt ≤ (isum (fun t => σ.2 3 (x * 12 + t)) nt).toInt := by
    have : ¬ (isum (fun t => σ.2 3 (x * 12 + t)) nt).toInt < g.toInt := h2
    omega
  refine ⟨fun n hn => ?_, fun n hn => ?_, fun n ha hb => ?_, ?_⟩
  · rw [flwF, fillF_at _ _ _ _ hn, hfl]
    exact fG_cg (f := fun t => τ.2 4 (12 * x + t)) (S := potS (τ.2 4) x 12) (h.pot hx) n fun i hi => h.2.2.2.2.2.2.2.2.1 x i hx (by omega)
  · rw [hfl]
    have hA := (isum_z (f := fun t => σ.2 3 (x * 12 + t)) (n + 1) (by omega) fun i hi => hent i (by omega)).2.2
    exact (fG_z (f := fun t => σ.2 3 (x * 12 + t)) hp.2.1 hent (by omega) h2' n hn (by omega)).2
  · rw [hfl]; exact fG_0 (hz n ha hb)
  · exact fG_all (f := fun t => σ.2 3 (x * 12 + t)) hp.2.1 hent (by omega) h2'
theorem mvS_pt {σ : gS} {nt x y : Nat} {g : Int32} (hxy : x ≠ y) (hnt : nt ≤ 12) (hz : ∀ n, nt ≤ n → n < 12 → flw (σ.2 3) x g (rowS (σ.2 3) x nt) n = 0) (r m : Nat) (hm : m < 12) :
    mvS σ nt x y g (r * 12 + m) = if r = x then σ.2 3 (r * 12 + m) - flw (σ.2 3) x g (rowS (σ.2 3) x nt) m else if r = y then σ.2 3 (r * 12 + m) + flw (σ.2 3) x g (rowS (σ.2 3) x nt) m else σ.2 3 (r * 12 + m) := by
  rw [mvS, mvL_pt _ hxy _ nt hnt r m hm]
  by_cases c : m < nt
  · rw [if_pos c]
  · rw [if_neg c, hz m (by omega) hm]; simp
theorem op_pour {σ τ : gS} {np nt no ni : Nat} (hR : RR σ τ np nt no ni) (x y g : Int32) : opOK (th_pour σ nt no x y g) (tm_pour τ no x y g) cdI (rowS (mvS σ nt (cl x) (cl y) g) (cl y) nt) (potS (addF (subF (τ.2 4) (flwF τ (cl x) g) (12 * cl x) 12) (flwF τ (cl x) g) (12 * cl y) 12) (cl y) 12) (sA σ 3 (mvS σ nt (cl x) (cl y) g)) (m_pour τ (cl x) (cl y) g) := by
  have hp := hR.pt
  refine opIf Iff.rfl (by decide) fun h0 => ?_
  obtain ⟨hx, ex⟩ := nb_lt (by omega) fun z => h0 (Or.inl z)
  obtain ⟨hy, ey⟩ := nb_lt (by omega) fun z => h0 (Or.inr z)
  refine opIf Iff.rfl (by decide) fun hg => opIf (by rw [hR.pot (by omega)]; exact i32_nle_iff) (by decide) fun h1 => ?_
  have hxy : cl x ≠ cl y := fun z => hg (Or.inl (by rw [ex, ey, z]))
  have hlo := out_lo fun z => hg (Or.inr z)
  generalize cl x = a at *
  generalize cl y = b at *
  obtain ⟨f1, f2, f3, -⟩ := hR.flow (x := a) (by omega) hlo h1
  have hpt := fun r m hm => mvS_pt (g := g) hxy hp.2.1 f3 r m hm
  have hent : ∀ p t, p < 10 → t < 12 → 0 ≤ (σ.2 3 (p * 12 + t)).toInt ∧ (σ.2 3 (p * 12 + t)).toInt ≤ 1000 := fun p t hp ht => hR.2.2.1.ent hp ht
  generalize flw (σ.2 3) a g (rowS (σ.2 3) a nt) = fl at *
  obtain ⟨A, M, ⟨n1, n2, n3, n4, n5, n6, n7, n8⟩, ⟨r1, r2, r3, r4, r5, r6, r7, r8, r9⟩⟩ := hR
  have e1 : ∀ t, t < 12 → (mvS σ nt a b g (a * 12 + t)).toInt = (σ.2 3 (a * 12 + t)).toInt - (fl t).toInt := fun t ht => by
    have := f2 t ht; have := hent a t (by omega) ht
    rw [hpt a t ht, if_pos rfl, ti_sub (by omega) (by omega)]
  have e2 : ∀ t, t < 12 → (mvS σ nt a b g (b * 12 + t)).toInt = (σ.2 3 (b * 12 + t)).toInt + (fl t).toInt := fun t ht => by
    have := f2 t ht; have := hent a t (by omega) ht; have := hent b t (by omega) ht
    rw [hpt b t ht, if_neg (fun z => hxy z.symm), if_pos rfl, ti_add (by omega) (by omega)]
  have e3 : ∀ r t, t < 12 → r ≠ a → r ≠ b → mvS σ nt a b g (r * 12 + t) = σ.2 3 (r * 12 + t) := fun r t ht h1 h2 => by
    rw [hpt r t ht, if_neg h1, if_neg h2]
  have hN : RR (sA σ 3 (mvS σ nt a b g)) (m_pour τ a b g) np nt no ni := by
    refine ⟨A, M, ⟨fun t ht => ⟨(n1 t ht).1, ?_⟩, fun p t hp' ht => ?_, fun p t hp' ht h => ?_, fun q k t hq hk ht => ?_, fun q k t hq hk ht h => ?_, fun q k hq hk => ?_, n7, n8⟩, ⟨r1, r2, r3, r4, fun t ht => ?_, fun p t hp' ht => ?_, r7, fun q k t hq hk ht => ?_, r9⟩⟩
    · show (σ.2 2 t).toInt + zsum (fun p => (mvS σ nt a b g (p * 12 + t)).toInt) 10 ≤ 1000
      rw [zsum_two (f := fun p => (σ.2 3 (p * 12 + t)).toInt) hxy (fun i h1 h2 => by rw [e3 i t ht h1 h2]) 10 (by omega) (by omega), e1 t ht, e2 t ht]
      have := n1 t ht; omega
    · show 0 ≤ (mvS σ nt a b g (p * 12 + t)).toInt
      have := f2 t ht
      by_cases c : p = a
      · subst c; rw [e1 t ht]; omega
      · by_cases c2 : p = b
        · subst c2; rw [e2 t ht]; have := hent p t hp' ht; omega
        · rw [e3 p t ht c c2]; exact n2 p t hp' ht
    · show mvS σ nt a b g (p * 12 + t) = 0
      rcases h with h | h
      · rw [hpt p t ht, n3 p t hp' ht (Or.inl h), f3 t h ht]; simp
      · rw [e3 p t ht (by omega) (by omega)]; exact n3 p t hp' ht (Or.inr h)
    · show 0 ≤ (mvS σ nt a b g _).toInt ∧ (mvS σ nt a b g _).toInt ≤ 1000
      rw [e3 _ t ht (by omega) (by omega)]; exact n4 q k t hq hk ht
    · show mvS σ nt a b g _ = 0
      rw [e3 _ t ht (by omega) (by omega)]; exact n5 q k t hq hk ht h
    · refine Int.le_trans (n6 q k hq hk) (Int.le_of_eq (zsum_cg 12 fun t ht => ?_))
      have hk2 : k < 12 := by
        obtain ⟨j, hj, ej⟩ := A.2.2.2.2.2.1 q
        have : k < cl (σ.2 4 q) := hk
        rw [ej, cl_nI (by omega)] at this; omega
      exact congrArg Int32.toInt (e3 _ t ht (by omega) (by omega)).symm
    · exact (r5 t ht).trans (e3 106 t ht (by omega) (by omega)).symm
    · show addF (subF (τ.2 4) (flwF τ a g) (12 * a) 12) (flwF τ a g) (12 * b) 12 (12 * p + t) = mvS σ nt a b g (p * 12 + t)
      rw [addF_pt _ _ b 12 (by omega) p t ht, subF_pt _ _ a 12 (by omega) p t ht, hpt p t ht, f1 t ht, r6 p t hp' ht]
      by_cases c : p = a
      · rw [if_neg (by omega), if_pos ⟨c, ht⟩, if_pos c]
      · by_cases c2 : p = b
        · rw [if_pos ⟨c2, ht⟩, if_neg (by omega), if_neg c, if_pos c2]
        · rw [if_neg (by omega), if_neg (by omega), if_neg c, if_neg c2]
    · exact (r8 q k t hq hk ht).trans (e3 _ t ht (by omega) (by omega)).symm
  exact ok0 (hN.pot (by omega)).symm ⟨np, nt, no, ni, hN⟩ rfl
theorem op_paint {σ τ : gS} {np nt no ni : Nat} (hR : RR σ τ np nt no ni) (q x g : Int32) : opOK (th_paint σ nt no ni q x g) (tm_paint τ no ni q x g) cdI (nI (cl (σ.2 4 (cl q)) + 1)) (nI (cl (τ.2 5 (cl q)) + 1)) (s_paint σ nt (cl q) (cl x) g) (m_paint τ (cl q) (cl x) g) := by
  have hp := hR.pt
  refine opIf Iff.rfl (by decide) fun h0 => ?_
  have hq := (nb_lt (by omega) fun z => h0 (Or.inl z)).1
  have hx := (nb_lt (by omega) fun z => h0 (Or.inr z)).1
  generalize cl x = a at *
  generalize cl q = b at *
  have elc := hR.lc (q := b) (by omega)
  obtain ⟨lc, hlc, ej⟩ := hR.1.2.2.2.2.2.1 b
  refine opIf Iff.rfl (by decide) fun hg => opIf ?_ (by decide) fun h1 => ?_
  · rw [hR.house (by omega), hR.pot (by omega), elc, ej]
    exact or_congr Iff.rfl (or_congr (full_iff (N := 12) hlc (by decide)) i32_nle_iff)
  have hl12 : lc < 12 := nlt_of (N := 12) hlc (by decide) fun z => h1 (Or.inr (Or.inl (by rw [ej]; exact z)))
  have h2 : ¬ rowS (σ.2 3) a nt < g := fun z => h1 (Or.inr (Or.inr z))
  have ec : cl (σ.2 4 b) = lc := by rw [ej, cl_nI (by omega)]
  have hxy : a ≠ 10 + b * 12 + lc := by omega
  obtain ⟨f1, f2, f3, f4⟩ := hR.flow (x := a) (by omega) (out_lo hg) h2
  have hpt := fun r m hm => mvS_pt (g := g) hxy hp.2.1 f3 r m hm
  have hent : ∀ p t, p < 10 → t < 12 → 0 ≤ (σ.2 3 (p * 12 + t)).toInt ∧ (σ.2 3 (p * 12 + t)).toInt ≤ 1000 := fun p t hp ht => hR.2.2.1.ent hp ht
  have hg1 := out_lo hg
  rw [i32_le] at hg1
  have h4 : (1 : Int32).toInt = 1 := rfl
  generalize flw (σ.2 3) a g (rowS (σ.2 3) a nt) = fl at *
  rw [s_paint, m_paint, elc, ec]
  refine ok0 rfl ⟨np, nt, no, ni, ?_⟩ rfl
  obtain ⟨⟨A1, A2, A3, A4, A5, A6, A7⟩, ⟨M1, M2, M3, M4, M5, M6, M7⟩, ⟨n1, n2, n3, n4, n5, n6, n7, n8⟩, ⟨r1, r2, r3, r4, r5, r6, r7, r8, r9⟩⟩ := hR
  have e1 : ∀ t, t < 12 → (mvS σ nt a (10 + b * 12 + lc) g (a * 12 + t)).toInt = (σ.2 3 (a * 12 + t)).toInt - (fl t).toInt := fun t ht => by
    have := f2 t ht; have := hent a t (by omega) ht
    rw [hpt a t ht, if_pos rfl, ti_sub (by omega) (by omega)]
  have e2 : ∀ t, t < 12 → mvS σ nt a (10 + b * 12 + lc) g ((10 + b * 12 + lc) * 12 + t) = fl t := fun t ht => by
    rw [hpt _ t ht, if_neg (fun z => hxy z.symm), if_pos rfl, n5 b lc t (by omega) hl12 ht (Or.inr (by omega)), Int32.zero_add]
  have e3 : ∀ r t, t < 12 → r ≠ a → r ≠ 10 + b * 12 + lc → mvS σ nt a (10 + b * 12 + lc) g (r * 12 + t) = σ.2 3 (r * 12 + t) := fun r t ht h1 h2 => by
    rw [hpt r t ht, if_neg h1, if_neg h2]
  generalize mvS σ nt a (10 + b * 12 + lc) g = L at *
  have hcl : ∀ q, cl (upd (σ.2 4) b (nI (lc + 1)) q) = if q = b then lc + 1 else cl (σ.2 4 q) := fun q => by
    by_cases c : q = b
    · rw [c, upd_s, if_pos rfl, cl_nI (by omega)]
    · rw [upd_n c, if_neg c]
  refine ⟨⟨A1, A2, A3, A4, A5, fun q => ?_, A7⟩, ⟨M1, M2, M3, M4, M5, fun q => ?_, M7⟩, ⟨fun t ht => ⟨(n1 t ht).1, ?_⟩, fun p t hp' ht => ?_, fun p t hp' ht h => ?_, fun q k t hq hk ht => ?_, fun q k t hq hk ht h => ?_, fun q k hq hk => ?_, n7, n8⟩, ⟨r1, r2, r3, r4, fun t ht => ?_, fun p t hp' ht => ?_, fun q hq => ?_, fun q k t hq hk ht => ?_, r9⟩⟩
  · exact upd_all (P := fun _ v => ∃ j, j ≤ 12 ∧ v = nI j) q (fun _ => A6 q) fun _ => ⟨lc + 1, by omega, rfl⟩
  · exact upd_all (P := fun _ v => ∃ j, j ≤ 12 ∧ v = nI j) q (fun _ => M6 q) fun _ => ⟨lc + 1, by omega, rfl⟩
  · show (σ.2 2 t).toInt + zsum (fun p => (L (p * 12 + t)).toInt) 10 ≤ 1000
    have h5 := zsum_one (f := fun p => (σ.2 3 (p * 12 + t)).toInt) (g := fun p => if p < 10 then (L (p * 12 + t)).toInt else (σ.2 3 (p * 12 + t)).toInt) (x := a) (fun i h1 => by
      by_cases c : i < 10
      · rw [if_pos c, e3 i t ht h1 (by omega)]
      · rw [if_neg c]) 10 (by omega)
    rw [zsum_cg (g := fun p => (L (p * 12 + t)).toInt) 10 fun i hi => if_pos hi, if_pos (by omega), e1 t ht] at h5
    have := n1 t ht; have := f2 t ht; omega
  · show 0 ≤ (L (p * 12 + t)).toInt
    have := f2 t ht
    by_cases c : p = a
    · subst c; rw [e1 t ht]; omega
    · rw [e3 p t ht c (by omega)]; exact n2 p t hp' ht
  · show L (p * 12 + t) = 0
    rcases h with h | h
    · rw [hpt p t ht, n3 p t hp' ht (Or.inl h), f3 t h ht]; simp
    · rw [e3 p t ht (by omega) (by omega)]; exact n3 p t hp' ht (Or.inr h)
  · show 0 ≤ (L ((10 + q * 12 + k) * 12 + t)).toInt ∧ (L ((10 + q * 12 + k) * 12 + t)).toInt ≤ 1000
    by_cases c : q = b ∧ k = lc
    · obtain ⟨rfl, rfl⟩ := c
      rw [e2 t ht]; have := f2 t ht; have := hent a t (by omega) ht; omega
    · rw [e3 _ t ht (by omega) (by omega)]; exact n4 q k t hq hk ht
  · show L ((10 + q * 12 + k) * 12 + t) = 0
    replace h : nt ≤ t ∨ cl (upd (σ.2 4) b (nI (lc + 1)) q) ≤ k := h
    rw [hcl] at h
    by_cases c : q = b ∧ k = lc
    · obtain ⟨rfl, rfl⟩ := c
      rw [if_pos rfl] at h
      rw [e2 t ht]; exact f3 t (by omega) ht
    · rw [e3 _ t ht (by omega) (by omega)]
      refine n5 q k t hq hk ht (h.imp id fun z => ?_)
      by_cases c2 : q = b
      · subst c2; rw [if_pos rfl] at z; omega
      · rwa [if_neg c2] at z
  · show 1 ≤ zsum (fun t => (L ((10 + q * 12 + k) * 12 + t)).toInt) 12
    replace hk : k < cl (upd (σ.2 4) b (nI (lc + 1)) q) := hk
    rw [hcl] at hk
    by_cases c : q = b ∧ k = lc
    · obtain ⟨rfl, rfl⟩ := c
      rw [zsum_cg (g := fun t => (fl t).toInt) 12 fun t ht => by rw [e2 t ht]]
      have h5 : zsum (fun t => (fl t).toInt) nt ≤ zsum (fun t => (fl t).toInt) 12 := by
        have : ∀ j, nt + j ≤ 12 → zsum (fun t => (fl t).toInt) nt ≤ zsum (fun t => (fl t).toInt) (nt + j) := fun j => by
          induction j with
          | zero => intro _; exact Int.le_refl _
          | succ j ih => intro hj; rw [← Nat.add_assoc, zsum]; have := ih (by omega); have := f2 (nt + j) (by omega); omega
        have h6 := this (12 - nt) (by omega)
        rwa [show nt + (12 - nt) = 12 by omega] at h6
      omega
    · have hk2 : k < cl (σ.2 4 q) := by
        by_cases c2 : q = b
        · subst c2; rw [if_pos rfl] at hk; omega
        · rwa [if_neg c2] at hk
      have hk3 : k < 12 := by
        obtain ⟨j, hj, ej'⟩ := A6 q
        rw [ej', cl_nI (by omega)] at hk2; omega
      rw [zsum_cg (g := fun t => (σ.2 3 ((10 + q * 12 + k) * 12 + t)).toInt) 12 fun t ht => by rw [e3 _ t ht (by omega) (by omega)]]
      exact n6 q k hq hk2
  · exact (r5 t ht).trans (e3 106 t ht (by omega) (by omega)).symm
  · show subF (τ.2 4) (flwF τ a g) (12 * a) 12 (12 * p + t) = L (p * 12 + t)
    rw [subF_pt _ _ a 12 (by omega) p t ht, hpt p t ht, f1 t ht, r6 p t hp' ht]
    by_cases c : p = a
    · rw [if_pos ⟨c, ht⟩, if_pos c]
    · rw [if_neg (by omega), if_neg c, if_neg (by omega)]
  · exact upd_cg (fun _ => r7 q hq) fun _ => rfl
  · show setF (τ.2 6) (flwF τ a g) (12 * (12 * b + lc)) 12 (12 * (12 * q + k) + t) = L ((10 + q * 12 + k) * 12 + t)
    rw [setF_pt _ _ (12 * b + lc) 12 (by omega) _ t ht]
    by_cases c : q = b ∧ k = lc
    · obtain ⟨rfl, rfl⟩ := c
      rw [if_pos ⟨rfl, ht⟩, f1 t ht, e2 t ht]
    · rw [if_neg (by omega), e3 _ t ht (by omega) (by omega)]; exact r8 q k t hq hk ht
