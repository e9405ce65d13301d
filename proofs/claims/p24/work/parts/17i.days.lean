/-! the days that pass -/
theorem isum_one {f g : Nat → Int32} {x : Nat} (h : ∀ i, i ≠ x → g i = f i) : ∀ n, x < n → isum g n = isum f n + (g x - f x)
  | 0, hx => absurd hx (Nat.not_lt_zero x)
  | n + 1, hx => by
    rw [isum, isum]
    by_cases e : x = n
    · subst e; rw [isum_cg x fun i hi => h i (by omega)]; grind
    · rw [isum_one h n (by omega), h n (fun z => e z.symm)]; grind
def payF (σ : gS) (m : Nat → Nat) (h : Nat) : Nat → Int32 := fun q => if cl (σ.2 8 q) = h then nI (m q) * σ.2 9 q else 0
def PP (σ τ0 τ : gS) (m : Nat → Nat) : Prop := (∀ q, q < 8 → m q ≤ cl (σ.2 7 q)) ∧ (∀ q, q < 8 → τ.2 10 q = nI (cl (σ.2 7 q) - m q)) ∧ (∀ q, q < 8 → τ.2 9 q = if m q = cl (σ.2 7 q) then -1 else σ.2 8 q) ∧
  (∀ q, q < 8 → τ.2 7 q = σ.2 5 q + (if ¬ out (σ.2 10 (cl (σ.2 8 q))) 40 60 then 0 else nI (m q))) ∧ (∀ h, h < 4 → τ.2 13 h = σ.2 11 h + isum (payF σ m h) 8) ∧
  (∀ k, k ≠ 13 → k ≠ 7 → k ≠ 10 → k ≠ 9 → τ.2 k = τ0.2 k) ∧ (∀ k, k ≠ 5 → τ.1 k = τ0.1 k)
theorem days_nI {σ : gS} {nt no : Nat} (h : nInv σ nt no) {q : Nat} (hq : q < 8) : σ.2 7 q = nI (cl (σ.2 7 q)) ∧ cl (σ.2 7 q) ≤ 100 := by
  obtain ⟨h1, h2⟩ := h.2.2.2.2.2.2.2.1 q hq
  obtain ⟨a, ha, e⟩ := nI_of (x := σ.2 7 q) (by rw [i32_lt]; have : (0 : Int32).toInt = 0 := rfl; omega)
  rw [e, nI_toInt ha] at h2
  rw [e, cl_nI ha]; exact ⟨rfl, by omega⟩
theorem PP_p1 {σ τ0 τ : gS} {np nt no ni : Nat} (hR : RR σ τ0 np nt no ni) {m : Nat → Nat} (h : PP σ τ0 τ m) {q : Nat} (hq : q < 8) : ∃ m', PP σ τ0 (p1 τ q) m' ∧ m' q = min (m q + 1) (cl (σ.2 7 q)) ∧ ∀ j, j ≠ q → m' j = m j := by
  obtain ⟨p1', p2, p3, p4, p5, p6, p7⟩ := h
  have hD := days_nI hR.2.2.1 hq
  have hm := p1' q hq
  by_cases c : m q = cl (σ.2 7 q)
  · refine ⟨m, ?_, by omega, fun _ _ => rfl⟩
    rw [p1, if_pos (by rw [p3 q hq, if_pos c])]
    exact ⟨p1', p2, p3, p4, p5, p6, p7⟩
  · obtain ⟨j, hj, ej⟩ := hR.1.2.2.2.2.2.2 q
    have e9 : τ.2 9 q = nI j := by rw [p3 q hq, if_neg c, ej]
    have hne : ¬ τ.2 9 q = -1 := by
      rw [e9]; intro z
      have := congrArg Int32.toInt z
      rw [nI_toInt (by omega)] at this
      have h2 : (-1 : Int32).toInt = -1 := rfl
      omega
    have e10 : τ.2 10 q - 1 = nI (cl (σ.2 7 q) - (m q + 1)) := by
      rw [p2 q hq, show cl (σ.2 7 q) - m q = (cl (σ.2 7 q) - (m q + 1)) + 1 by omega, nI_pred]
    have e12 : τ.2 12 (cl (τ.2 9 q)) = σ.2 10 (cl (σ.2 8 q)) := by
      rw [p6 12 (by decide) (by decide) (by decide) (by decide), e9, ej, cl_nI (by omega)]
      exact hR.2.2.2.2.2.2.2.2.2.2.2.2.2.2.2.2.1 j hj
    have e11 : τ.2 11 q = σ.2 9 q := by
      rw [p6 11 (by decide) (by decide) (by decide) (by decide)]
      exact hR.2.2.2.2.2.2.2.2.2.2.2.2.2.2.2.1 q hq
    have hone : ∀ h, isum (payF σ (va_up m q (m q + 1)) h) 8 = isum (payF σ m h) 8 + (payF σ (va_up m q (m q + 1)) h q - payF σ m h q) := fun h => isum_one (fun i hi => by rw [payF, payF, va_up, if_neg hi]) 8 hq
    refine ⟨va_up m q (m q + 1), ?_, by rw [va_up, if_pos rfl]; omega, fun j hj => by rw [va_up, if_neg hj]⟩
    rw [p1, if_neg hne]
    refine ⟨fun i hi => ?_, fun i hi => ?_, fun i hi => ?_, fun i hi => ?_, fun h hh => ?_, fun k h13 h7 h10 h9 => ?_, p7⟩
    · by_cases e : i = q
      · subst e; rw [va_up, if_pos rfl]; omega
      · rw [va_up, if_neg e]; exact p1' i hi
    · show upd (τ.2 10) q (τ.2 10 q - 1) i = _
      by_cases e : i = q
      · subst e; rw [upd_s, e10, va_up, if_pos rfl]
      · rw [upd_n e, va_up, if_neg e]; exact p2 i hi
    · show upd (τ.2 9) q (if ¬ τ.2 10 q - 1 = 0 then τ.2 9 q else -1) i = _
      by_cases e : i = q
      · subst e
        rw [upd_s, e10, va_up, if_pos rfl, e9, ej]
        by_cases c2 : m i + 1 = cl (σ.2 7 i)
        · rw [if_pos c2, if_neg]
          rw [show cl (σ.2 7 i) - (m i + 1) = 0 by omega]; exact fun z => z rfl
        · rw [if_neg c2, if_pos (nI_ne0 (by omega) (by omega))]
      · rw [upd_n e, va_up, if_neg e]; exact p3 i hi
    · show upd (τ.2 7) q (τ.2 7 q + (if ¬ out (τ.2 12 (cl (τ.2 9 q))) 40 60 then 0 else 1)) i = _
      by_cases e : i = q
      · subst e
        rw [upd_s, e12, p4 i hi, va_up, if_pos rfl]
        by_cases c2 : ¬ out (σ.2 10 (cl (σ.2 8 i))) 40 60
        · rw [if_pos c2, if_pos c2, if_pos c2]; simp
        · rw [if_neg c2, if_neg c2, if_neg c2, nI_succ]; grind
      · rw [upd_n e, va_up, if_neg e]; exact p4 i hi
    · show upd (τ.2 13) (cl (τ.2 9 q)) (τ.2 13 (cl (τ.2 9 q)) + τ.2 11 q) h = _
      rw [hone h, payF, payF, va_up, if_pos rfl, e9, cl_nI (by omega), ej, cl_nI (by omega), e11]
      by_cases e : h = j
      · subst e
        rw [upd_s, if_pos rfl, if_pos rfl, p5 h hh, nI_succ]; grind
      · rw [upd_n e, if_neg (fun z => e z.symm), if_neg (fun z => e z.symm), p5 h hh]; simp
    · have h2 := p1_ar τ q k h13 h7 h10 h9
      rw [p1, if_neg hne] at h2
      exact h2.trans (p6 k h13 h7 h10 h9)
theorem PP_p1s {σ τ0 τ : gS} {np nt no ni : Nat} (hR : RR σ τ0 np nt no ni) {m : Nat → Nat} (h : PP σ τ0 τ m) : ∀ n, n ≤ 8 → ∃ m', PP σ τ0 (p1s τ n) m' ∧ ∀ j, m' j = if j < n then min (m j + 1) (cl (σ.2 7 j)) else m j
  | 0, _ => ⟨m, h, fun j => (if_neg (Nat.not_lt_zero j)).symm⟩
  | n + 1, hn => by
    obtain ⟨m1, h1, h2⟩ := PP_p1s hR h n (by omega)
    obtain ⟨m2, h3, h4, h5⟩ := PP_p1 hR h1 (q := n) (by omega)
    refine ⟨m2, h3, fun j => ?_⟩
    by_cases e : j = n
    · subst e; rw [h4, h2 j, if_neg (by omega), if_pos (by omega)]
    · rw [h5 j e, h2 j]
      by_cases c : j < n
      · rw [if_pos c, if_pos (by omega)]
      · rw [if_neg c, if_neg (by omega)]
theorem p1s_1 (τ : gS) (k : Nat) : ∀ n, (p1s τ n).1 k = τ.1 k
  | 0 => rfl
  | n + 1 => (p1_sc _ n k).trans (p1s_1 τ k n)
theorem PP_pN {σ τ0 τ : gS} {np nt no ni : Nat} (hR : RR σ τ0 np nt no ni) (h : PP σ τ0 τ fun _ => 0) : ∀ k, (∃ m', PP σ τ0 (pN τ ni k) m' ∧ ∀ j, j < 8 → m' j = if j < ni then min k (cl (σ.2 7 j)) else 0) ∧ (pN τ ni k).1 5 = τ.1 5 + nI k
  | 0 => ⟨⟨_, h, fun j _ => by rw [Nat.zero_min]; simp⟩, (Int32.add_zero _).symm⟩
  | k + 1 => by
    have hp := hR.pt
    obtain ⟨⟨m1, h1, h2⟩, h3⟩ := PP_pN hR h k
    have h4 : PP σ τ0 (sS (pN τ ni k) 5 ((pN τ ni k).1 5 + 1)) m1 := by
      obtain ⟨q1, q2, q3, q4, q5, q6, q7⟩ := h1
      refine ⟨q1, q2, q3, q4, q5, q6, fun j hj => ?_⟩
      exact (upd_n hj).trans (q7 j hj)
    obtain ⟨m2, h5, h6⟩ := PP_p1s hR h4 ni hp.2.2.2
    refine ⟨⟨m2, h5, fun j hj => ?_⟩, ?_⟩
    · rw [h6 j, h2 j hj]
      by_cases c : j < ni
      · rw [if_pos c, if_pos c, if_pos c]; omega
      · rw [if_neg c, if_neg c, if_neg c]
    · rw [pN, p1s_1]
      show upd (pN τ ni k).1 5 ((pN τ ni k).1 5 + 1) 5 = _
      rw [upd_s, h3, nI_succ]; grind
theorem pfls_2 (σ : gS) (d : Int32) (k : Nat) (h5 : k ≠ 5) (h7 : k ≠ 7) (h11 : k ≠ 11) : ∀ n, (pfls σ d n).2 k = σ.2 k
  | 0 => rfl
  | n + 1 => (pfl_2 _ d n k h5 h7 h11).trans (pfls_2 σ d k h5 h7 h11 n)
def mB (σ : gS) (dd k : Nat) : Nat → Nat := fun q => if q < k then min dd (cl (σ.2 7 q)) else 0
theorem calm_iff {x : Int32} (h : 0 ≤ x.toInt ∧ x.toInt ≤ 100) : (if 0 ≤ x - 50 then x - 50 else 0 - (x - 50)) ≤ 10 ↔ ¬ out x 40 60 := by
  have h50 : (50 : Int32).toInt = 50 := rfl
  have h0 : (0 : Int32).toInt = 0 := rfl
  have h10 : (10 : Int32).toInt = 10 := rfl
  have h40 : (40 : Int32).toInt = 40 := rfl
  have h60 : (60 : Int32).toInt = 60 := rfl
  have e1 : (x - 50).toInt = x.toInt - 50 := by rw [ti_sub (by omega) (by omega), h50]
  have e2 : (0 - (x - 50)).toInt = 50 - x.toInt := by rw [ti_sub (by omega) (by omega), e1, h0]; omega
  show _ ↔ ¬ (x < 40 ∨ ¬ x ≤ 60)
  rw [i32_lt, i32_le (x := x), h40, h60]
  by_cases c : 0 ≤ x - 50
  · rw [if_pos c, i32_le, e1, h10]
    rw [i32_le, e1, h0] at c; omega
  · rw [if_neg c, i32_le, e2, h10]
    rw [i32_le, e1, h0] at c; omega
theorem pfls_at {σ : gS} {np nt no ni : Nat} (hA : iA σ np nt no ni) (hN : nInv σ nt no) {dd : Nat} (hd : dd ≤ 100) : ∀ k, k ≤ 8 →
    (∀ q, q < 8 → (pfls σ (nI dd) k).2 7 q = nI (cl (σ.2 7 q) - mB σ dd k q)) ∧
    (∀ q, q < 8 → (pfls σ (nI dd) k).2 5 q = σ.2 5 q + (if ¬ out (σ.2 10 (cl (σ.2 8 q))) 40 60 then 0 else nI (mB σ dd k q))) ∧
    (∀ h, h < 4 → (pfls σ (nI dd) k).2 11 h = σ.2 11 h + isum (payF σ (mB σ dd k) h) 8)
  | 0, _ => by
    have hm0 : ∀ q, mB σ dd 0 q = 0 := fun q => by rw [mB, if_neg (Nat.not_lt_zero q)]
    refine ⟨fun q hq => ?_, fun q hq => ?_, fun h hh => ?_⟩
    · rw [hm0, Nat.sub_zero]; exact (days_nI hN hq).1
    · rw [hm0, nI_0]
      show σ.2 5 q = _
      split <;> simp
    · have : isum (payF σ (mB σ dd 0) h) 8 = isum (payF σ (mB σ dd 0) h) 0 := isum_to (Nat.zero_le _) fun i _ hi => by
        rw [payF, hm0, nI_0]; split <;> simp
      rw [this, isum, Int32.add_zero]; rfl
  | k + 1, hk => by
    obtain ⟨i1, i2, i3⟩ := pfls_at hA hN hd k (by omega)
    have hD := days_nI hN (q := k) (by omega)
    have f8 := pfls_2 σ (nI dd) 8 (by decide) (by decide) (by decide) k
    have f9 := pfls_2 σ (nI dd) 9 (by decide) (by decide) (by decide) k
    have f10 := pfls_2 σ (nI dd) 10 (by decide) (by decide) (by decide) k
    obtain ⟨j, hj, ej⟩ := hA.2.2.2.2.2.2 k
    have hmk : mB σ dd k k = 0 := by rw [mB, if_neg (by omega)]
    have hmk1 : mB σ dd (k + 1) k = min dd (cl (σ.2 7 k)) := by rw [mB, if_pos (by omega)]
    have hmo : ∀ i, i ≠ k → mB σ dd (k + 1) i = mB σ dd k i := fun i hi => by
      rw [mB, mB]
      by_cases c : i < k
      · rw [if_pos c, if_pos (by omega)]
      · rw [if_neg c, if_neg (by omega)]
    have e7 : (pfls σ (nI dd) k).2 7 k = nI (cl (σ.2 7 k)) := by rw [i1 k (by omega), hmk, Nat.sub_zero]
    have eL : lentD (pfls σ (nI dd) k) (nI dd) k = nI (min dd (cl (σ.2 7 k))) := by
      rw [lentD, e7]
      by_cases c : cl (σ.2 7 k) < dd
      · rw [if_pos ((nI_ltI (by omega) (by omega)).mpr c), Nat.min_eq_right (by omega)]
      · rw [if_neg (fun z => c ((nI_ltI (by omega) (by omega)).mp z)), Nat.min_eq_left (by omega)]
    have hdmp := hN.2.2.2.2.2.2.1 j hj
    have hcalm := calm_iff hdmp
    have hone : ∀ h, isum (payF σ (mB σ dd (k + 1)) h) 8 = isum (payF σ (mB σ dd k) h) 8 + (payF σ (mB σ dd (k + 1)) h k - payF σ (mB σ dd k) h k) := fun h => isum_one (fun i hi => by rw [payF, payF, hmo i hi]) 8 (by omega)
    rw [pfls, pfl, eL, f8, f9, f10, ej, cl_nI (by omega), e7]
    refine ⟨fun q hq => ?_, fun q hq => ?_, fun h hh => ?_⟩
    · show upd _ k (nI (cl (σ.2 7 k)) - nI (min dd (cl (σ.2 7 k)))) q = _
      by_cases e : q = k
      · subst e; rw [upd_s, hmk1, pk_sub (by omega)]
      · rw [upd_n e, hmo q e]
        rw [← i1 q hq]
    · by_cases e : q = k
      · subst e
        rw [ej, cl_nI (by omega), hmk1]
        by_cases c : ¬ out (σ.2 10 j) 40 60
        · rw [if_pos (hcalm.mpr c), if_pos c]
          have h5 := i2 q hq
          rw [ej, cl_nI (by omega), if_pos c] at h5
          exact h5
        · rw [if_neg (fun z => c (hcalm.mp z)), if_neg c]
          have h5 := i2 q hq
          rw [ej, cl_nI (by omega), if_neg c, hmk, nI_0, Int32.add_zero] at h5
          show upd ((pfls σ (nI dd) q).2 5) q _ q = _
          rw [upd_s, h5]
      · rw [hmo q e, ← i2 q hq]
        by_cases c : ¬ out (σ.2 10 j) 40 60
        · rw [if_pos (hcalm.mpr c)]; rfl
        · rw [if_neg (fun z => c (hcalm.mp z))]; exact upd_n e
    · rw [hone h, payF, payF, hmk, hmk1, nI_0, ej, cl_nI (by omega)]
      have hu : ∀ v, upd ((pfls σ (nI dd) k).2 11) j v h = if h = j then v else (pfls σ (nI dd) k).2 11 h := fun v => rfl
      have hs : ∀ v f, (sA (sA (if (if 0 ≤ σ.2 10 j - 50 then σ.2 10 j - 50 else 0 - (σ.2 10 j - 50)) ≤ 10 then pfls σ (nI dd) k else sA (pfls σ (nI dd) k) 5 f) 11 v) 7 (upd ((pfls σ (nI dd) k).2 7) k (nI (cl (σ.2 7 k)) - nI (min dd (cl (σ.2 7 k)))))).2 11 h = v h := fun v f => rfl
      show upd ((pfls σ (nI dd) k).2 11) j ((pfls σ (nI dd) k).2 11 j + nI (min dd (cl (σ.2 7 k))) * σ.2 9 k) h = _
      rw [hu, i3 h hh, i3 j hj]
      by_cases e : h = j
      · subst e; rw [if_pos rfl, if_pos rfl, if_pos rfl]; grind
      · rw [if_neg e, if_neg (fun z => e z.symm), if_neg (fun z => e z.symm)]; simp
