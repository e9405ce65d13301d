/-! the main pigment, the look, the value -/
theorem lay_pos {σ τ : gS} {np nt no ni : Nat} (hR : RR σ τ np nt no ni) {q k : Nat} (hq : q < 8) (hk : k < cl (σ.2 4 q)) (hk2 : k < 12) : 1 ≤ (rowS (σ.2 3) (10 + q * 12 + k) nt).toInt := by
  have hp := hR.pt
  obtain ⟨-, -, ⟨n1, n2, n3, n4, n5, n6, n7, n8⟩, -⟩ := hR
  rw [rowS, ← isum_to (f := fun t => σ.2 3 ((10 + q * 12 + k) * 12 + t)) (m := 12) hp.2.1 fun t h1 h2 => n5 q k t hq hk2 h2 (Or.inl h1)]
  rw [(isum_z (f := fun t => σ.2 3 ((10 + q * 12 + k) * 12 + t)) 12 (by omega) fun t ht => n4 q k t hq hk2 ht).1]
  exact n6 q k hq hk
theorem lc_k {σ τ : gS} {np nt no ni : Nat} (hR : RR σ τ np nt no ni) {q : Nat} (h0 : ¬ σ.2 4 q = 0) : cl (σ.2 4 q) - 1 < cl (σ.2 4 q) ∧ cl (σ.2 4 q) - 1 < 12 := by
  obtain ⟨j, hj, ej⟩ := hR.1.2.2.2.2.2.1 q
  rw [ej, cl_nI (by omega)]
  have : j ≠ 0 := fun z => h0 (by rw [ej, z]; rfl)
  omega
theorem hz_of {σ τ : gS} {np nt no ni : Nat} (hR : RR σ τ np nt no ni) : ∀ q, q < ni → ¬ τ.2 5 q = 0 → ¬ isum (fun t => τ.2 6 (topB τ q + t)) nt = 0 := by
  intro q hq h0 h
  have hp := hR.pt
  rw [hR.lc (by omega)] at h0
  obtain ⟨k1, k2⟩ := lc_k hR h0
  have h1 := lay_pos hR (q := q) (by omega) k1 k2
  rw [← hR.lay (by omega) k2, ← hR.lc (by omega)] at h1
  have h2 := congrArg Int32.toInt h
  have h3 : (isum (fun t => τ.2 6 (12 * (12 * q + (cl (τ.2 5 q) - 1)) + t)) nt).toInt = 0 := h2
  omega
theorem gop_sm {σ τ : gS} {np nt no ni : Nat} (hR : RR σ τ np nt no ni) {q k : Nat} (hq : q < 8) (hk : k < 12) {i : Nat} (hi : i < 6) : ∀ n, n ≤ 12 → smF (τ.2 6) (τ.2 1) (12 * (12 * q + k)) n i = gopN σ (10 + q * 12 + k) (nI i) n
  | 0, _ => rfl
  | n + 1, hn => by
    have ih := gop_sm hR hq hk hi n (by omega)
    obtain ⟨j, hj, ej⟩ := hR.1.2.2.2.2.1 n
    have e8 := hR.2.2.2.2.2.2.2.2.2.2.1 q k n hq hk (by omega)
    rw [smF, gopN, hR.2.2.2.2.2.1 n (by omega), ej, cl_nI (by omega), e8]
    by_cases c : i = j
    · subst c; rw [upd_s, if_pos rfl, ih]
    · rw [upd_n c, if_neg (fun z => c ((nI_eq (by omega) (by omega)).mp z).symm), ih]
theorem gop_b {σ : gS} {r : Nat} {k : Int32} (h : ∀ t, t < 12 → 0 ≤ (σ.2 3 (r * 12 + t)).toInt ∧ (σ.2 3 (r * 12 + t)).toInt ≤ 1000) : ∀ n, n ≤ 12 → 0 ≤ (gopN σ r k n).toInt ∧ (gopN σ r k n).toInt ≤ 1000 * n
  | 0, _ => ⟨by rw [gopN]; decide, by rw [gopN]; decide⟩
  | n + 1, hn => by
    have ih := gop_b (k := k) h n (by omega)
    have := h n (by omega)
    rw [gopN]
    split
    · rw [ti_add (by omega) (by omega)]; omega
    · omega
theorem gop_0 {σ : gS} {r : Nat} {k : Int32} : ∀ n, (∀ t, t < n → ¬ σ.2 1 t = k) → gopN σ r k n = 0
  | 0, _ => rfl
  | n + 1, h => by rw [gopN, if_neg (h n (by omega))]; exact gop_0 n fun t ht => h t (by omega)
theorem gop_ge {σ : gS} {r : Nat} {k : Int32} (h : ∀ t, t < 12 → 0 ≤ (σ.2 3 (r * 12 + t)).toInt ∧ (σ.2 3 (r * 12 + t)).toInt ≤ 1000) {t : Nat} (ht : σ.2 1 t = k) : ∀ n, n ≤ 12 → t < n → (σ.2 3 (r * 12 + t)).toInt ≤ (gopN σ r k n).toInt
  | 0, _, h2 => absurd h2 (Nat.not_lt_zero t)
  | n + 1, hn, h2 => by
    have hb := gop_b (k := k) h n (by omega)
    have := h n (by omega)
    rw [gopN]
    by_cases e : t = n
    · subst e; rw [if_pos ht, ti_add (by omega) (by omega)]; omega
    · have ih := gop_ge h ht n (by omega) (by omega)
      split
      · rw [ti_add (by omega) (by omega)]; omega
      · exact ih
theorem mpr_bst {g : Nat → Int32} (hg : ∀ i, 0 ≤ (g i).toInt) : ∀ n, ((∀ i, i < n → g i = 0) ∧ mpr g n = (-1, 0)) ∨ (1 ≤ n ∧ 0 < (g (bst g (n - 1))).toInt ∧ mpr g n = (nI (bst g (n - 1)), g (bst g (n - 1))))
  | 0 => Or.inl ⟨fun i hi => absurd hi (Nat.not_lt_zero i), rfl⟩
  | n + 1 => by
    rw [mpr, Nat.add_sub_cancel]
    have h0 : (0 : Int32).toInt = 0 := rfl
    rcases mpr_bst hg n with ⟨h1, h2⟩ | ⟨h1, h2, h3⟩
    · rw [h2]
      by_cases c : g n ≤ 0
      · left
        rw [if_pos c]
        refine ⟨fun i hi => ?_, rfl⟩
        by_cases e : i = n
        · subst e
          have := hg i
          rw [i32_le] at c
          rw [i32_eq]; omega
        · exact h1 i (by omega)
      · right
        rw [if_neg c]
        have hb : bst g n = n := by
          cases n with
          | zero => rfl
          | succ m =>
            have := bst_le g m
            rw [bst, h1 (bst g m) (by omega), if_neg c]
        rw [hb]
        rw [i32_le] at c
        exact ⟨by omega, by omega, rfl⟩
    · right
      obtain ⟨m, rfl⟩ : ∃ m, n = m + 1 := ⟨n - 1, by omega⟩
      rw [Nat.add_sub_cancel] at h2 h3
      rw [h3, bst]
      by_cases c : g (m + 1) ≤ g (bst g m)
      · rw [if_pos c, if_pos c]; exact ⟨by omega, h2, rfl⟩
      · rw [if_neg c, if_neg c]
        rw [i32_le] at c
        exact ⟨by omega, by omega, rfl⟩
theorem bst_cg {F G : Nat → Int32} : ∀ n, (∀ i, i ≤ n → F i = G i) → bst F n = bst G n
  | 0, _ => rfl
  | n + 1, h => by
    have := bst_le G n
    rw [bst, bst, bst_cg n fun i hi => h i (by omega), h (n + 1) (by omega), h (bst G n) (by omega)]
theorem bst_tail {g : Nat → Int32} (hg : ∀ i, 0 ≤ (g i).toInt) (m : Nat) : ∀ d, (∀ i, m < i → i ≤ m + d → g i = 0) → bst g (m + d) = bst g m
  | 0, _ => rfl
  | d + 1, h => by
    rw [← Nat.add_assoc, bst, bst_tail hg m d fun i h1 h2 => h i h1 (by omega), h (m + d + 1) (by omega) (by omega), if_pos]
    rw [i32_le]; exact hg _
theorem main_eq {σ τ : gS} {np nt no ni : Nat} (hR : RR σ τ np nt no ni) {q : Nat} (hq : q < 8) : mnM τ nt q = mpo σ np nt q := by
  have hp := hR.pt
  rw [mnM, mpo, hR.lc hq]
  by_cases c : σ.2 4 q = 0
  · rw [if_pos c, if_pos c]
  · rw [if_neg c, if_neg c]
    obtain ⟨k1, k2⟩ := lc_k hR c
    have hlp := lay_pos hR hq k1 k2
    have hent : ∀ t, t < 12 → 0 ≤ (σ.2 3 ((10 + q * 12 + (cl (σ.2 4 q) - 1)) * 12 + t)).toInt ∧ (σ.2 3 ((10 + q * 12 + (cl (σ.2 4 q) - 1)) * 12 + t)).toInt ≤ 1000 := fun t ht => hR.2.2.1.2.2.2.1 q _ t hq k2 ht
    have hsm : ∀ i, i < 6 → smF (τ.2 6) (τ.2 1) (topB τ q) nt i = gopN σ (topR σ q) (nI i) nt := fun i hi => by
      rw [topB, topR, hR.lc hq]; exact gop_sm hR hq k2 hi nt hp.2.1
    have hnn : ∀ i, 0 ≤ (gopN σ (topR σ q) (nI i) nt).toInt := fun i => (gop_b (r := topR σ q) hent nt hp.2.1).1
    have hpig := hR.2.2.1.2.2.2.2.2.2.2.2
    have hnp := hR.1.1.1
    have hz : ∀ i, np ≤ i → i < 6 → gopN σ (topR σ q) (nI i) nt = 0 := fun i h1 h2 => gop_0 nt fun t ht z => by
      have := hpig t ht
      rw [z, hnp, nI_toInt (by omega), nI_toInt (by omega)] at this; omega
    have hex : ∃ i, i < np ∧ 0 < (gopN σ (topR σ q) (nI i) nt).toInt := by
      refine Classical.byContradiction fun hno => ?_
      have hall : ∀ t, t < nt → σ.2 3 ((10 + q * 12 + (cl (σ.2 4 q) - 1)) * 12 + t) = 0 := fun t ht => by
        obtain ⟨j, hj, ej⟩ := hR.1.2.2.2.2.1 t
        have h3 := hpig t ht
        rw [ej, hnp, nI_toInt (by omega), nI_toInt (by omega)] at h3
        have h4 := gop_ge (r := topR σ q) hent ej nt hp.2.1 ht
        have h5 : ¬ 0 < (gopN σ (topR σ q) (nI j) nt).toInt := fun z => hno ⟨j, by omega, z⟩
        have h6 := hent t (by omega)
        rw [i32_eq]
        have h7 : (0 : Int32).toInt = 0 := rfl
        rw [topR] at h4 h5
        omega
      have h8 : rowS (σ.2 3) (10 + q * 12 + (cl (σ.2 4 q) - 1)) nt = 0 := isum_to (n := 0) (Nat.zero_le nt) fun t _ ht => hall t ht
      rw [h8] at hlp
      exact absurd hlp (by decide)
    obtain ⟨i, hi, hi2⟩ := hex
    rw [bst_cg 5 fun i hi => hsm i (by omega)]
    rcases mpr_bst (g := fun k => gopN σ (topR σ q) (nI k) nt) hnn np with ⟨h1, -⟩ | ⟨h1, -, h3⟩
    · have h1' : gopN σ (topR σ q) (nI i) nt = 0 := h1 i hi
      rw [h1'] at hi2; exact absurd hi2 (by decide)
    · rw [h3]
      have := bst_tail (g := fun k => gopN σ (topR σ q) (nI k) nt) hnn (np - 1) (5 - (np - 1)) fun i h1 h2 => hz i (by omega) (by omega)
      rw [show np - 1 + (5 - (np - 1)) = 5 by omega] at this
      exact congrArg nI this
theorem look_eq {σ τ : gS} {np nt no ni : Nat} (hR : RR σ τ np nt no ni) {q ch : Nat} (hq : q < 8) (hc : ch < 3) : lkM τ nt q ch = lko σ nt q ch := by
  have hp := hR.pt
  rw [lkM, lko, hR.lc hq]
  by_cases c : σ.2 4 q = 0
  · rw [if_pos c, if_pos c]
  · rw [if_neg c, if_neg c]
    obtain ⟨k1, k2⟩ := lc_k hR c
    have hlp := lay_pos hR hq k1 k2
    rw [colR, topR, topB, hR.lc hq, hR.lay hq k2, if_neg (fun z => by rw [z] at hlp; exact absurd hlp (by decide))]
    congr 1
    exact isum_cg nt fun t ht => by
      rw [colT_M hR (by omega) hc, hR.2.2.2.2.2.2.2.2.2.2.1 q _ t hq k2 (by omega)]
theorem vlP_eq {σ τ : gS} {np nt no ni : Nat} (hR : RR σ τ np nt no ni) {mn : Int32} (hm : ¬ mn = -1) : ∀ n, n ≤ 8 → vlP τ nt mn n = alk σ np nt mn n
  | 0, _ => rfl
  | n + 1, hn => by
    have ih := vlP_eq hR hm n (by omega)
    have e10 := hR.2.2.2.2.2.2.2.2.2.2.2.2.1 n (by omega)
    rw [vlP, alk, ih, e10, main_eq hR (by omega)]
    by_cases c : ¬ σ.2 6 n ≤ 0 ∧ mpo σ np nt n = mn
    · rw [if_pos c, if_pos ⟨fun z => z.elim hm c.1, c.2⟩]
    · rw [if_neg c, if_neg fun z => c ⟨fun y => z.1 (Or.inr y), z.2⟩]
theorem vlP_m1 (τ : gS) (nt : Nat) : ∀ n, vlP τ nt (-1) n = (0, 0)
  | 0 => rfl
  | n + 1 => by rw [vlP, vlP_m1 τ nt n, if_neg (fun z => z.1 (Or.inl rfl))]
theorem mean_eq {σ τ : gS} {np nt no ni : Nat} (hR : RR σ τ np nt no ni) {q : Nat} (hq : q < 8) : meanM τ nt ni q = avgA σ np nt ni q := by
  have hp := hR.pt
  rw [meanM, avgA, main_eq hR hq]
  by_cases c : mpo σ np nt q = -1
  · rw [if_pos c, c, vlP_m1, if_pos rfl]
  · rw [if_neg c, vlP_eq hR c ni (by omega)]
theorem val_eq {σ τ : gS} {np nt no ni : Nat} (hR : RR σ τ np nt no ni) {q : Nat} (hq : q < 8) : valM τ nt ni q = valA σ np nt ni q := by
  rw [valM, valA, wrtM, mean_eq hR hq, hR.2.2.2.2.2.2.2.2.2.2.2.1 q hq]
  generalize avgA σ np nt ni q - σ.2 5 q * (avgA σ np nt ni q / 20) = w
  have h0 : (0 : Int32).toInt = 0 := rfl
  by_cases c : 0 < w
  · rw [if_pos c, if_pos (by rw [i32_lt] at c; rw [i32_le]; omega)]
  · rw [if_neg c]
    split
    · rename_i h
      rw [i32_lt] at c; rw [i32_le] at h
      rw [i32_eq]; omega
    · rfl
