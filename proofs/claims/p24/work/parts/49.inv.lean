/-! What the book's calls keep, out of the facts of the pure parts: the reference's state that belongs to a book's. -/
def refS (σ : gS) : gS := (fun k => match k with | 0 => 0 | 1 => σ.1 0 | 2 => σ.1 1 | 3 => σ.1 2 | 4 => σ.1 3 | _ => σ.1 4, fun k => match k with | 0 => σ.2 0 | 1 => σ.2 1 | 2 => σ.2 2 | 3 => fun t => σ.2 3 (106 * 12 + t) | 4 => σ.2 3 | 5 => σ.2 4 | 6 => fun i => σ.2 3 (120 + i) | 7 => σ.2 5 | 8 => σ.2 6 | 9 => fun q => if ¬ σ.2 7 q ≤ 0 then σ.2 8 q else -1 | 10 => σ.2 7 | 11 => σ.2 9 | 12 => σ.2 10 | 13 => σ.2 11 | _ => fun _ => 0)
theorem RR_ref {σ : gS} {np nt no ni : Nat} (hA : iA σ np nt no ni) (hN : nInv σ nt no) : RR σ (refS σ) np nt no ni := by
  refine ⟨hA, ⟨hA.1, hA.2.1, hA.2.2.1, hA.2.2.2.1, hA.2.2.2.2.1, hA.2.2.2.2.2.1, fun q => ?_⟩, hN, rfl, fun _ _ => rfl, fun _ _ => rfl, fun _ _ => rfl, fun _ _ => rfl, fun p t _ _ => ?_, fun _ _ => rfl, fun q k t _ _ _ => ?_, fun _ _ => rfl, fun _ _ => rfl, fun _ _ => rfl, fun _ _ => rfl, fun _ _ => rfl, fun _ _ => rfl, fun _ _ => rfl⟩
  · show (if ¬ σ.2 7 q ≤ 0 then σ.2 8 q else -1) = -1 ∨ ∃ j, j < 4 ∧ (if ¬ σ.2 7 q ≤ 0 then σ.2 8 q else -1) = nI j
    by_cases c : ¬ σ.2 7 q ≤ 0
    · rw [if_pos c]; exact Or.inr (hA.2.2.2.2.2.2 q)
    · rw [if_neg c]; exact Or.inl rfl
  · show σ.2 3 (12 * p + t) = σ.2 3 (p * 12 + t)
    rw [Nat.mul_comm]
  · show σ.2 3 (120 + (12 * (12 * q + k) + t)) = σ.2 3 ((10 + q * 12 + k) * 12 + t)
    rw [show 120 + (12 * (12 * q + k) + t) = (10 + q * 12 + k) * 12 + t by omega]
theorem op_inv {Km : Nat} {cd : Nat → Nat} {rb rm : Int32} {σ' τ' : gS} {a b c d : Nat} (h : opOK 0 Km cd rb rm σ' τ') (e0 : σ'.1 0 = nI a) (e1 : σ'.1 1 = nI b) (e2 : σ'.1 2 = nI c) (e3 : σ'.1 3 = nI d) (h0 : a ≤ 100) (h1 : b ≤ 100) (h2 : c ≤ 100) (h3 : d ≤ 100) : iA σ' a b c d ∧ nInv σ' b c := by
  rcases h with ⟨-, -, -, ⟨np, nt, no, ni, hR⟩, -⟩ | ⟨h, -⟩
  · have hp := hR.pt
    have f0 : np = a := (nI_eq (a := np) (b := a) (by omega) (by omega)).mp (hR.1.1.1.symm.trans e0)
    have f1 : nt = b := (nI_eq (a := nt) (b := b) (by omega) (by omega)).mp (hR.1.2.1.1.symm.trans e1)
    have f2 : no = c := (nI_eq (a := no) (b := c) (by omega) (by omega)).mp (hR.1.2.2.1.1.symm.trans e2)
    have f3 : ni = d := (nI_eq (a := ni) (b := d) (by omega) (by omega)).mp (hR.1.2.2.2.1.1.symm.trans e3)
    subst f0; subst f1; subst f2; subst f3
    exact ⟨hR.1, hR.2.2.1⟩
  · exact absurd rfl h
theorem op_inv4 {σ : gS} (hA : iA σ 4 6 4 4) {Km : Nat} {cd : Nat → Nat} {rb rm : Int32} {σ' τ' : gS} (h : opOK 0 Km cd rb rm σ' τ') (e : σ'.1 0 = σ.1 0) (e1 : σ'.1 1 = σ.1 1) (e2 : σ'.1 2 = σ.1 2) (e3 : σ'.1 3 = σ.1 3) : iA σ' 4 6 4 4 ∧ nInv σ' 6 4 :=
  op_inv h (e.trans hA.1.1) (e1.trans hA.2.1.1) (e2.trans hA.2.2.1.1) (e3.trans hA.2.2.2.1.1) (by decide) (by decide) (by decide) (by decide)
theorem th_sq {σ : gS} {pt tb n : Nat} (hpt : pt < 4) (htb : tb < 6) (h1 : 1 ≤ n) (h2 : n ≤ 1000) : th_squeeze σ 6 4 (nI pt) (nI tb) (nI n) = if ¬ nI n ≤ σ.2 2 tb then 3 else 0 := by
  rw [th_squeeze, if_neg (fun z => z.elim (nb_in hpt (by decide)) (nb_in htb (by decide))), if_neg (show ¬ out (nI n) 1 1000 from out_in (lo := 1) (M := 1000) h1 h2 (by decide)), cl_nI (by omega)]
theorem th_po {σ : gS} {x y n : Nat} (hx : x < 4) (hy : y < 4) (hxy : x ≠ y) (h1 : 1 ≤ n) (h2 : n ≤ 12000) : th_pour σ 6 4 (nI x) (nI y) (nI n) = if rowS (σ.2 3) x 6 < nI n then 3 else 0 := by
  rw [th_pour, if_neg (fun z => z.elim (nb_in hx (by decide)) (nb_in hy (by decide))), if_neg (show ¬ (nI x = nI y ∨ out (nI n) 1 12000) from fun z => z.elim (fun e => hxy ((nI_eq (a := x) (b := y) (by omega) (by omega)).mp e)) (out_in (lo := 1) (M := 12000) h1 h2 (by decide))), cl_nI (by omega)]
theorem th_sc {x : Nat} (hx : x < 4) : 0 = th_scrape 4 (nI x) := by rw [th_scrape, if_neg (nb_in hx (by decide))]
theorem th_pa {σ : gS} {q x n : Nat} (hq : q < 4) (hx : x < 4) (h1 : 1 ≤ n) (h2 : n ≤ 1000) : th_paint σ 6 4 4 (nI q) (nI x) (nI n) = if ¬ σ.2 7 q ≤ 0 ∨ ¬ σ.2 4 q < 12 ∨ rowS (σ.2 3) x 6 < nI n then 3 else 0 := by
  rw [th_paint, if_neg (fun z => z.elim (nb_in hq (by decide)) (nb_in hx (by decide))), if_neg (show ¬ out (nI n) 1 1000 from out_in (lo := 1) (M := 1000) h1 h2 (by decide)), cl_nI (by omega), cl_nI (by omega)]
theorem th_cl {σ : gS} {q n : Nat} (hq : q < 4) (h1 : 1 ≤ n) (h2 : n ≤ 12) : th_clean σ 4 (nI q) (nI n) = if ¬ σ.2 7 q ≤ 0 ∨ ¬ nI n ≤ σ.2 4 q then 3 else 0 := by
  rw [th_clean, if_neg (nb_in hq (by decide)), if_neg (show ¬ out (nI n) 1 12 from out_in (lo := 1) (M := 12) h1 h2 (by decide)), cl_nI (by omega)]
theorem th_le {σ : gS} {q x d : Nat} (hq : q < 4) (hx : x < 4) (h1 : 1 ≤ d) (h2 : d ≤ 100) : th_lend σ 4 (nI q) (nI x) (nI d) = if ¬ σ.2 7 q ≤ 0 ∨ ¬ σ.2 5 q < 10 then 3 else 0 := by
  rw [th_lend, if_neg (show ¬ (bad (nI q) (nI 4) ∨ bad (nI x) 4) from fun z => z.elim (nb_in hq (by decide)) (nb_in (N := 4) hx (by decide))), if_neg (show ¬ out (nI d) 1 100 from out_in (lo := 1) (M := 100) h1 h2 (by decide)), cl_nI (by omega)]
theorem th_se {σ : gS} {q x : Nat} (hq : q < 4) (h1 : 1 ≤ x) (h2 : x ≤ 100000) : th_sell σ 4 (nI q) (nI x) = if ¬ σ.2 7 q ≤ 0 ∨ σ.2 4 q = 0 then 3 else 0 := by
  rw [th_sell, if_neg (nb_in hq (by decide)), if_neg (show ¬ out (nI x) 1 100000 from out_in (lo := 1) (M := 100000) h1 h2 (by decide)), cl_nI (by omega)]
theorem th_da {x d : Nat} (hx : x < 4) (h2 : d ≤ 100) : 0 = th_damp (nI x) (nI d) := by
  rw [th_damp, if_neg (show ¬ bad (nI x) 4 from nb_in (N := 4) hx (by decide)), if_neg (show ¬ out (nI d) 0 100 from out_in (lo := 0) (M := 100) (Nat.zero_le _) h2 (by decide))]
theorem th_ps {σ : gS} {T d : Nat} (e : σ.1 4 = nI T) (h1 : 1 ≤ d) (h2 : d ≤ 100) (h3 : T + d ≤ 5000) : 0 = th_pass σ (nI d) := by
  rw [th_pass, if_neg (show ¬ out (nI d) 1 100 from out_in (lo := 1) (M := 100) h1 h2 (by decide)), e, nI_add, if_neg]
  exact fun z => z ((nI_leI (a := T + d) (b := 5000) (by omega) (by decide)).mpr h3)
theorem home_iff {σ τ : gS} (hR : rel24 σ τ) {q : Nat} (hq : q < 4) (hA : iA σ 4 6 4 4) : τ.2 5 (7 * q + 3) = 0 ↔ σ.2 7 q ≤ 0 := by
  rw [hR.2.2.2.2.1 q hq, hsL]
  obtain ⟨j, hj, ej⟩ := hA.2.2.2.2.2.2 q
  by_cases c : σ.2 7 q ≤ 0
  · rw [if_neg (fun z => z c)]; exact ⟨fun _ => c, fun _ => rfl⟩
  · rw [if_pos c, ej, cl_nI (by omega)]
    exact ⟨fun z => absurd z (nI_ne0 (by omega) (by omega)), fun z => absurd z c⟩
/-! arrays by sixes -/
theorem subF6_pt (P F : Nat → Int32) (x : Nat) : ∀ n, n ≤ 6 → ∀ p t, t < 6 → subF P F (6 * x) n (6 * p + t) = if p = x ∧ t < n then P (6 * p + t) - F t else P (6 * p + t)
  | 0, _, p, t, _ => by rw [subF, if_neg (by omega)]
  | n + 1, hn, p, t, ht => by
    have ih := subF6_pt P F x n (by omega)
    rw [subF]
    by_cases e : p = x ∧ t = n
    · obtain ⟨rfl, rfl⟩ := e
      rw [upd_s, if_pos (by omega), ih p t ht, if_neg (by omega)]
    · rw [upd_n (by omega), ih p t ht]
      by_cases q : p = x ∧ t < n
      · rw [if_pos q, if_pos (by omega)]
      · rw [if_neg q, if_neg (by omega)]
theorem addF6_pt (P F : Nat → Int32) (x : Nat) : ∀ n, n ≤ 6 → ∀ p t, t < 6 → addF P F (6 * x) n (6 * p + t) = if p = x ∧ t < n then P (6 * p + t) + F t else P (6 * p + t)
  | 0, _, p, t, _ => by rw [addF, if_neg (by omega)]
  | n + 1, hn, p, t, ht => by
    have ih := addF6_pt P F x n (by omega)
    rw [addF]
    by_cases e : p = x ∧ t = n
    · obtain ⟨rfl, rfl⟩ := e
      rw [upd_s, if_pos (by omega), ih p t ht, if_neg (by omega)]
    · rw [upd_n (by omega), ih p t ht]
      by_cases q : p = x ∧ t < n
      · rw [if_pos q, if_pos (by omega)]
      · rw [if_neg q, if_neg (by omega)]
theorem zerB6_pt (P : Nat → Int32) (x : Nat) : ∀ n, n ≤ 6 → ∀ p t, t < 6 → zerB P (6 * x) n (6 * p + t) = if p = x ∧ t < n then 0 else P (6 * p + t)
  | 0, _, p, t, _ => by rw [zerB, if_neg (by omega)]
  | n + 1, hn, p, t, ht => by
    have ih := zerB6_pt P x n (by omega)
    rw [zerB]
    by_cases e : p = x ∧ t = n
    · obtain ⟨rfl, rfl⟩ := e
      rw [upd_s, if_pos (by omega)]
    · rw [upd_n (by omega), ih p t ht]
      by_cases q : p = x ∧ t < n
      · rw [if_pos q, if_pos (by omega)]
      · rw [if_neg q, if_neg (by omega)]
theorem wasT_2 (W G : Nat → Int32) : ∀ n t, wasT W G n (3 * t + 2) = if t < n then W (3 * t + 2) + G t else W (3 * t + 2)
  | 0, t => by rw [wasT, if_neg (Nat.not_lt_zero t)]
  | n + 1, t => by
    rw [wasT]
    by_cases e : t = n
    · subst e; rw [upd_s, wasT_2 W G t t, if_neg (Nat.lt_irrefl t), if_pos (Nat.lt_succ_self t)]
    · rw [upd_n (by omega), wasT_2 W G n t]
      by_cases q : t < n
      · rw [if_pos q, if_pos (by omega)]
      · rw [if_neg q, if_neg (by omega)]
theorem wasT_0 (W G : Nat → Int32) : ∀ n t, wasT W G n (3 * t) = W (3 * t)
  | 0, t => rfl
  | n + 1, t => by rw [wasT, upd_n (by omega), wasT_0 W G n t]
theorem wasT_1 (W G : Nat → Int32) : ∀ n t, wasT W G n (3 * t + 1) = W (3 * t + 1)
  | 0, t => rfl
  | n + 1, t => by rw [wasT, upd_n (by omega), wasT_1 W G n t]
theorem sA_id (σ : gS) (k : Nat) : sA σ k (σ.2 k) = σ := by
  show (σ.1, va_up σ.2 k (σ.2 k)) = σ
  have e : va_up σ.2 k (σ.2 k) = σ.2 := by
    funext j
    by_cases c : j = k
    · subst c; simp [va_up]
    · simp [va_up, c]
  rw [e]
