theorem wzL_u {L : Nat → Int32} {f : Nat} (hf : f ≠ 106) {N : Nat} (hN : N ≤ 12) (hz : ∀ m, N ≤ m → m < 12 → L (f * 12 + m) = 0) (r m : Nat) (hm : m < 12) : wzL L f N (r * 12 + m) = if r = f then 0 else if r = 106 then L (r * 12 + m) + L (f * 12 + m) else L (r * 12 + m) := by
  rw [wzL_pt L hf N hN r m hm]
  by_cases c : m < N
  · rw [if_pos c]
  · rw [if_neg c]
    have := hz m (by omega) hm
    by_cases a : r = f
    · rw [if_pos a, a, this]
    · rw [if_neg a, this, Int32.add_zero]; simp
theorem zsum_mono0 {f g : Nat → Int} (n : Nat) (h : ∀ i, i < n → f i ≤ g i) {z : Int} (hz : zsum g n ≤ z) : zsum f n ≤ z := Int.le_trans (zsum_le n h) hz
theorem op_scrape {σ τ : gS} {np nt no ni : Nat} (hR : RR σ τ np nt no ni) (x : Int32) : opOK (th_scrape no x) (tm_scrape no x) cdI (rowS (σ.2 3) (cl x) nt) (potS (τ.2 4) (cl x) 12) (sA σ 3 (wzL (σ.2 3) (cl x) nt)) (m_scrape τ (cl x)) := by
  have hp := hR.pt
  refine opIf Iff.rfl (by decide) fun h0 => ?_
  have hx := (nb_lt (by omega) h0).1
  generalize cl x = a at *
  refine ok0 (hR.pot (by omega)).symm ⟨np, nt, no, ni, ?_⟩ rfl
  obtain ⟨A, M, ⟨n1, n2, n3, n4, n5, n6, n7, n8⟩, ⟨r1, r2, r3, r4, r5, r6, r7, r8, r9⟩⟩ := hR
  have hw := fun r m hm => wzL_u (L := σ.2 3) (f := a) (N := nt) (by omega) hp.2.1 (fun m h1 h2 => n3 a m (by omega) h2 (Or.inl h1)) r m hm
  have e3 : ∀ r t, t < 12 → r ≠ a → r ≠ 106 → wzL (σ.2 3) a nt (r * 12 + t) = σ.2 3 (r * 12 + t) := fun r t ht h1 h2 => by
    rw [hw r t ht, if_neg h1, if_neg h2]
  have e1 : ∀ t, t < 12 → wzL (σ.2 3) a nt (a * 12 + t) = 0 := fun t ht => by rw [hw a t ht, if_pos rfl]
  refine ⟨A, M, ⟨fun t ht => ⟨(n1 t ht).1, ?_⟩, fun p t hp' ht => ?_, fun p t hp' ht h => ?_, fun q k t hq hk ht => ?_, fun q k t hq hk ht h => ?_, fun q k hq hk => ?_, n7, n8⟩, ⟨r1, r2, r3, r4, fun t ht => ?_, fun p t hp' ht => ?_, r7, fun q k t hq hk ht => ?_, r9⟩⟩
  · show (σ.2 2 t).toInt + zsum (fun p => (wzL (σ.2 3) a nt (p * 12 + t)).toInt) 10 ≤ 1000
    have := n1 t ht
    have := zsum_le (f := fun p => (wzL (σ.2 3) a nt (p * 12 + t)).toInt) (g := fun p => (σ.2 3 (p * 12 + t)).toInt) 10 fun i hi => by
      by_cases c : i = a
      · subst c
        have := n2 i t hi ht
        show (wzL (σ.2 3) i nt (i * 12 + t)).toInt ≤ _
        rw [e1 t ht]; exact this
      · show (wzL (σ.2 3) a nt (i * 12 + t)).toInt ≤ _
        rw [e3 i t ht c (by omega)]; exact Int.le_refl _
    omega
  · show 0 ≤ (wzL (σ.2 3) a nt (p * 12 + t)).toInt
    by_cases c : p = a
    · subst c; rw [e1 t ht]; decide
    · rw [e3 p t ht c (by omega)]; exact n2 p t hp' ht
  · show wzL (σ.2 3) a nt (p * 12 + t) = 0
    by_cases c : p = a
    · subst c; exact e1 t ht
    · rw [e3 p t ht c (by omega)]; exact n3 p t hp' ht h
  · show 0 ≤ (wzL (σ.2 3) a nt _).toInt ∧ (wzL (σ.2 3) a nt _).toInt ≤ 1000
    rw [e3 _ t ht (by omega) (by omega)]; exact n4 q k t hq hk ht
  · show wzL (σ.2 3) a nt _ = 0
    rw [e3 _ t ht (by omega) (by omega)]; exact n5 q k t hq hk ht h
  · refine Int.le_trans (n6 q k hq hk) (Int.le_of_eq (zsum_cg 12 fun t ht => ?_))
    have hk2 : k < 12 := by
      obtain ⟨j, hj, ej⟩ := A.2.2.2.2.2.1 q
      have : k < cl (σ.2 4 q) := hk
      rw [ej, cl_nI (by omega)] at this; omega
    exact congrArg Int32.toInt (e3 _ t ht (by omega) (by omega)).symm
  · show wstB (τ.2 3) (τ.2 4) (12 * a) 12 t = wzL (σ.2 3) a nt (106 * 12 + t)
    rw [wstB_pt _ _ a 12 (by omega) t ht, if_pos ht, hw 106 t ht, if_neg (by omega), if_pos rfl, r5 t ht, r6 a t (by omega) ht]
  · show zerB (τ.2 4) (12 * a) 12 (12 * p + t) = wzL (σ.2 3) a nt (p * 12 + t)
    rw [zerB_pt _ a 12 (by omega) p t ht, hw p t ht, if_neg (show ¬ p = 106 by omega), r6 p t hp' ht]
    by_cases c : p = a
    · rw [if_pos ⟨c, ht⟩, if_pos c]
    · rw [if_neg (by omega), if_neg c]
  · exact (r8 q k t hq hk ht).trans (e3 _ t ht (by omega) (by omega)).symm
theorem clean_k {σ τ : gS} {np nt no ni : Nat} (hR : RR σ τ np nt no ni) {b lc : Nat} (hb : b < 8) (hlc : cl (σ.2 4 b) = lc) (hl : lc ≤ 12) : ∀ k, k ≤ lc →
    (∀ m, m < 12 → (clM (τ.2 3) (τ.2 6) b lc k).1 m = clL (σ.2 3) nt b lc k (106 * 12 + m)) ∧
    (∀ q j t, q < 8 → j < 12 → t < 12 → (clM (τ.2 3) (τ.2 6) b lc k).2.1 (12 * (12 * q + j) + t) = clL (σ.2 3) nt b lc k ((10 + q * 12 + j) * 12 + t)) ∧
    (∀ r m, m < 12 → r ≠ 106 → clL (σ.2 3) nt b lc k (r * 12 + m) = if 10 + b * 12 + (lc - k) ≤ r ∧ r < 10 + b * 12 + lc then 0 else σ.2 3 (r * 12 + m)) ∧
    clS (σ.2 3) nt b lc k = (clM (τ.2 3) (τ.2 6) b lc k).2.2
  | 0, _ => by
    obtain ⟨A, M, N, ⟨r1, r2, r3, r4, r5, r6, r7, r8, r9⟩⟩ := hR
    exact ⟨r5, r8, fun r m hm h => by rw [clL, if_neg (by omega)], rfl⟩
  | k + 1, hk => by
    have hp := hR.pt
    obtain ⟨i1, i2, i3, i4⟩ := clean_k hR hb hlc hl k (by omega)
    have hz : ∀ m, nt ≤ m → m < 12 → clL (σ.2 3) nt b lc k ((10 + b * 12 + (lc - k - 1)) * 12 + m) = 0 := fun m h1 h2 => by
      rw [i3 _ m h2 (by omega), if_neg (by omega)]
      exact hR.2.2.1.2.2.2.2.1 b (lc - k - 1) m hb (by omega) h2 (Or.inl h1)
    have hw := fun r m hm => wzL_u (L := clL (σ.2 3) nt b lc k) (f := 10 + b * 12 + (lc - k - 1)) (N := nt) (by omega) hp.2.1 hz r m hm
    rw [clM, clL, clS]
    refine ⟨fun m hm => ?_, fun q j t hq hj ht => ?_, fun r m hm h => ?_, ?_⟩
    · show wstB _ _ (12 * (12 * b + (lc - k - 1))) 12 m = _
      rw [wstB_pt _ _ _ 12 (by omega) m hm, if_pos hm, hw 106 m hm, if_neg (by omega), if_pos rfl, i1 m hm, i2 b _ m hb (by omega) hm]
    · show zerB _ (12 * (12 * b + (lc - k - 1))) 12 _ = _
      rw [zerB_pt _ _ 12 (by omega) _ t ht, hw _ t ht, if_neg (show ¬ 10 + q * 12 + j = 106 by omega), i2 q j t hq hj ht]
      by_cases c : q = b ∧ j = lc - k - 1
      · rw [if_pos (by omega), if_pos (by omega)]
      · rw [if_neg (by omega), if_neg (by omega)]
    · rw [hw r m hm, if_neg h, i3 r m hm h]
      by_cases c : r = 10 + b * 12 + (lc - k - 1)
      · rw [if_pos c, if_pos (by omega)]
      · rw [if_neg c]
        by_cases c2 : 10 + b * 12 + (lc - k) ≤ r ∧ r < 10 + b * 12 + lc
        · rw [if_pos c2, if_pos (by omega)]
        · rw [if_neg c2, if_neg (by omega)]
    · show _ = sumB _ _ (12 * (12 * b + (lc - k - 1))) 12
      rw [sumB_pt _ _ _ 12 (by omega), i4, rowS]
      congr 1
      rw [isum_to hp.2.1 fun m h1 h2 => by rw [i2 b _ m hb (by omega) h2, hz m h1 h2]]
      exact isum_cg nt fun m hm => (i2 b _ m hb (by omega) (by omega)).symm
theorem op_clean {σ τ : gS} {np nt no ni : Nat} (hR : RR σ τ np nt no ni) (q n : Int32) : opOK (th_clean σ ni q n) (tm_clean τ ni q n) cdI (clS (σ.2 3) nt (cl q) (cl (σ.2 4 (cl q))) (cl n)) ((clM (τ.2 3) (τ.2 6) (cl q) (cl (τ.2 5 (cl q))) (cl n)).2.2) (s_clean σ nt (cl q) (cl n)) (m_clean τ (cl q) (cl n)) := by
  have hp := hR.pt
  refine opIf Iff.rfl (by decide) fun h0 => ?_
  have hq := (nb_lt (by omega) h0).1
  generalize cl q = b at *
  have elc := hR.lc (q := b) (by omega)
  obtain ⟨lc, hlc, ej⟩ := hR.1.2.2.2.2.2.1 b
  refine opIf Iff.rfl (by decide) fun hg => opIf ?_ (by decide) fun h1 => ?_
  · rw [hR.house (by omega), elc]
  obtain ⟨a, ⟨ha1, ha⟩, rfl⟩ := out_nat (M := 12) rfl (by decide) hg
  have ec : cl (σ.2 4 b) = lc := by rw [ej, cl_nI (by omega)]
  have hal : a ≤ lc := by
    have : nI a ≤ σ.2 4 b := Classical.byContradiction fun z => h1 (Or.inr z)
    rw [ej] at this
    exact (nI_leI (by omega) (by omega)).mp this
  rw [s_clean, m_clean, elc, ec, cl_nI (by omega)]
  obtain ⟨i1, i2, i3, i4⟩ := clean_k hR (b := b) (by omega) ec hlc a hal
  refine ok0 i4 ⟨np, nt, no, ni, ?_⟩ rfl
  obtain ⟨⟨A1, A2, A3, A4, A5, A6, A7⟩, ⟨M1, M2, M3, M4, M5, M6, M7⟩, ⟨n1, n2, n3, n4, n5, n6, n7, n8⟩, ⟨r1, r2, r3, r4, r5, r6, r7, r8, r9⟩⟩ := hR
  have hcl : ∀ q, cl (upd (σ.2 4) b (nI (lc - a)) q) = if q = b then lc - a else cl (σ.2 4 q) := fun q => by
    by_cases c : q = b
    · rw [c, upd_s, if_pos rfl, cl_nI (by omega)]
    · rw [upd_n c, if_neg c]
  have e3 : ∀ r t, t < 12 → r ≠ 106 → ¬ (10 + b * 12 + (lc - a) ≤ r ∧ r < 10 + b * 12 + lc) → clL (σ.2 3) nt b lc a (r * 12 + t) = σ.2 3 (r * 12 + t) := fun r t ht h1 h2 => by
    rw [i3 r t ht h1, if_neg h2]
  refine ⟨⟨A1, A2, A3, A4, A5, fun q => ?_, A7⟩, ⟨M1, M2, M3, M4, M5, fun q => ?_, M7⟩, ⟨fun t ht => ⟨(n1 t ht).1, ?_⟩, fun p t hp' ht => ?_, fun p t hp' ht h => ?_, fun q k t hq hk ht => ?_, fun q k t hq hk ht h => ?_, fun q k hq hk => ?_, n7, n8⟩, ⟨r1, r2, r3, r4, i1, fun p t hp' ht => ?_, fun q hq => ?_, i2, r9⟩⟩
  · exact upd_all (P := fun _ v => ∃ j, j ≤ 12 ∧ v = nI j) q (fun _ => A6 q) fun _ => ⟨lc - a, by omega, rfl⟩
  · exact upd_all (P := fun _ v => ∃ j, j ≤ 12 ∧ v = nI j) q (fun _ => M6 q) fun _ => ⟨lc - a, by omega, rfl⟩
  · show (σ.2 2 t).toInt + zsum (fun p => (clL (σ.2 3) nt b lc a (p * 12 + t)).toInt) 10 ≤ 1000
    rw [zsum_cg (g := fun p => (σ.2 3 (p * 12 + t)).toInt) 10 fun i hi => by rw [e3 i t ht (by omega) (by omega)]]
    exact (n1 t ht).2
  · show 0 ≤ (clL (σ.2 3) nt b lc a (p * 12 + t)).toInt
    rw [e3 p t ht (by omega) (by omega)]; exact n2 p t hp' ht
  · show clL (σ.2 3) nt b lc a (p * 12 + t) = 0
    rw [e3 p t ht (by omega) (by omega)]; exact n3 p t hp' ht h
  · show 0 ≤ (clL (σ.2 3) nt b lc a _).toInt ∧ (clL (σ.2 3) nt b lc a _).toInt ≤ 1000
    rw [i3 _ t ht (by omega)]
    split
    · decide
    · exact n4 q k t hq hk ht
  · show clL (σ.2 3) nt b lc a ((10 + q * 12 + k) * 12 + t) = 0
    replace h : nt ≤ t ∨ cl (upd (σ.2 4) b (nI (lc - a)) q) ≤ k := h
    rw [hcl] at h
    rw [i3 _ t ht (by omega)]
    split
    · rfl
    · rename_i hn
      refine n5 q k t hq hk ht (h.imp id fun z => ?_)
      by_cases c2 : q = b
      · subst c2; rw [if_pos rfl] at z; omega
      · rwa [if_neg c2] at z
  · show 1 ≤ zsum (fun t => (clL (σ.2 3) nt b lc a ((10 + q * 12 + k) * 12 + t)).toInt) 12
    replace hk : k < cl (upd (σ.2 4) b (nI (lc - a)) q) := hk
    rw [hcl] at hk
    have hk2 : k < cl (σ.2 4 q) ∧ (q = b → k < lc - a) := by
      by_cases c2 : q = b
      · subst c2; rw [if_pos rfl] at hk; exact ⟨by omega, fun _ => hk⟩
      · rw [if_neg c2] at hk; exact ⟨hk, fun z => absurd z c2⟩
    have hk3 : k < 12 := by
      obtain ⟨j, hj, ej'⟩ := A6 q
      have := hk2.1
      rw [ej', cl_nI (by omega)] at this; omega
    have := hk2.2
    rw [zsum_cg (g := fun t => (σ.2 3 ((10 + q * 12 + k) * 12 + t)).toInt) 12 fun t ht => by rw [e3 _ t ht (by omega) (by omega)]]
    exact n6 q k hq hk2.1
  · exact (r6 p t hp' ht).trans (e3 p t ht (by omega) (by omega)).symm
  · exact upd_cg (fun _ => r7 q hq) fun _ => rfl
