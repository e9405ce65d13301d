theorem ti_add {a b : Int32} (h1 : -2147483648 ≤ a.toInt + b.toInt) (h2 : a.toInt + b.toInt < 2147483648) : (a + b).toInt = a.toInt + b.toInt := by
  rw [Int32.toInt_add]; simp only [Int.bmod]; omega
theorem ti_sub {a b : Int32} (h1 : -2147483648 ≤ a.toInt - b.toInt) (h2 : a.toInt - b.toInt < 2147483648) : (a - b).toInt = a.toInt - b.toInt := by
  rw [Int32.toInt_sub]; simp only [Int.bmod]; omega
theorem ti_mul {a b : Int32} (h1 : -2147483648 ≤ a.toInt * b.toInt) (h2 : a.toInt * b.toInt < 2147483648) : (a * b).toInt = a.toInt * b.toInt := by
  rw [Int32.toInt_mul]; generalize a.toInt * b.toInt = z at *; simp only [Int.bmod]; omega
theorem ti_div {a b : Int32} (h1 : 0 ≤ a.toInt) (h2 : 0 < b.toInt) : (a / b).toInt = a.toInt / b.toInt := by
  obtain ⟨x, hx, rfl⟩ := nI_of (x := a) (by rw [i32_lt]; simp; omega)
  obtain ⟨y, hy, rfl⟩ := nI_of (x := b) (by rw [i32_lt]; simp; omega)
  rw [nI_toInt hx] at *; rw [nI_toInt hy] at *
  have : x / y < 2 ^ 31 := Nat.lt_of_le_of_lt (Nat.div_le_self x y) hx
  rw [pk_div hx (by omega) hy, nI_toInt this, Int.natCast_ediv]
theorem zsum_cg {f g : Nat → Int} : ∀ n, (∀ i, i < n → f i = g i) → zsum f n = zsum g n
  | 0, _ => rfl
  | n + 1, h => by rw [zsum, zsum, zsum_cg n fun i hi => h i (by omega), h n (by omega)]
theorem zsum_le {f g : Nat → Int} : ∀ n, (∀ i, i < n → f i ≤ g i) → zsum f n ≤ zsum g n
  | 0, _ => Int.le_refl _
  | n + 1, h => by rw [zsum, zsum]; have := zsum_le n fun i hi => h i (by omega); have := h n (by omega); omega
theorem zsum_0 {f : Nat → Int} : ∀ n, (∀ i, i < n → f i = 0) → zsum f n = 0
  | 0, _ => rfl
  | n + 1, h => by rw [zsum, zsum_0 n fun i hi => h i (by omega), h n (by omega)]; rfl
theorem zsum_nn {f : Nat → Int} : ∀ n, (∀ i, i < n → 0 ≤ f i) → 0 ≤ zsum f n
  | 0, _ => Int.le_refl _
  | n + 1, h => by rw [zsum]; have := zsum_nn n fun i hi => h i (by omega); have := h n (by omega); omega
theorem zsum_ge {f : Nat → Int} : ∀ n, (∀ i, i < n → 0 ≤ f i) → ∀ j, j < n → f j ≤ zsum f n
  | 0, _, j, hj => absurd hj (Nat.not_lt_zero j)
  | n + 1, h, j, hj => by
    rw [zsum]
    have h1 := zsum_nn n fun i hi => h i (by omega)
    have h2 := h n (by omega)
    by_cases e : j = n
    · subst e; omega
    · have := zsum_ge n (fun i hi => h i (by omega)) j (by omega); omega
theorem zsum_one {f g : Nat → Int} {x : Nat} (h : ∀ i, i ≠ x → g i = f i) : ∀ n, x < n → zsum g n = zsum f n + (g x - f x)
  | 0, hx => absurd hx (Nat.not_lt_zero x)
  | n + 1, hx => by
    rw [zsum, zsum]
    by_cases e : x = n
    · subst e; rw [zsum_cg x fun i hi => h i (by omega)]; omega
    · have := zsum_one h n (by omega); have := h n (fun z => e z.symm); omega
theorem zsum_two {f g : Nat → Int} {x y : Nat} (hxy : x ≠ y) (h : ∀ i, i ≠ x → i ≠ y → g i = f i) (n : Nat) (hx : x < n) (hy : y < n) : zsum g n = zsum f n + (g x - f x) + (g y - f y) := by
  have h1 := zsum_one (f := f) (g := fun i => if i = x then g x else f i) (x := x) (fun i hi => if_neg hi) n hx
  have h2 := zsum_one (f := fun i => if i = x then g x else f i) (g := g) (x := y) (fun i hi => by
    by_cases e : i = x
    · subst e; simp
    · simp [e, h i e hi]) n hy
  simp only [if_true] at h1
  rw [if_neg (fun z => hxy z.symm)] at h2
  omega
theorem isum_z {f : Nat → Int32} : ∀ n, n ≤ 100 → (∀ i, i < n → 0 ≤ (f i).toInt ∧ (f i).toInt ≤ 1000) → (isum f n).toInt = zsum (fun i => (f i).toInt) n ∧ 0 ≤ zsum (fun i => (f i).toInt) n ∧ zsum (fun i => (f i).toInt) n ≤ 1000 * n
  | 0, _, _ => ⟨rfl, Int.le_refl _, by simp [zsum]⟩
  | n + 1, hn, h => by
    obtain ⟨h1, h2, h3⟩ := isum_z n (by omega) fun i hi => h i (by omega)
    have h4 := h n (by omega)
    rw [isum, zsum, ti_add (by omega) (by omega), h1]
    omega
/-! flows -/
def fG (f : Nat → Int32) (g S : Int32) : Nat → Int32 := fun n => (isum f n + f n) * g / S - isum f n * g / S
theorem fG_0 {f : Nat → Int32} {g S : Int32} {n : Nat} (h : f n = 0) : fG f g S n = 0 := by
  rw [fG, h, Int32.add_zero, Int32.sub_self]
theorem fG_z {f : Nat → Int32} {g : Int32} {N : Nat} (hN : N ≤ 12) (hf : ∀ i, i < 12 → 0 ≤ (f i).toInt ∧ (f i).toInt ≤ 1000) (h1 : 1 ≤ g.toInt) (h2 : g.toInt ≤ (isum f N).toInt) (n : Nat) (hn : n < 12) (hA : zsum (fun i => (f i).toInt) (n + 1) ≤ 12000) :
    (fG f g (isum f N) n).toInt = zsum (fun i => (f i).toInt) (n + 1) * g.toInt / (isum f N).toInt - zsum (fun i => (f i).toInt) n * g.toInt / (isum f N).toInt ∧ 0 ≤ (fG f g (isum f N) n).toInt ∧ (fG f g (isum f N) n).toInt ≤ (f n).toInt := by
  obtain ⟨a1, a2, a3⟩ := isum_z (f := f) N (by omega) fun i hi => hf i (by omega)
  obtain ⟨b1, b2, b3⟩ := isum_z (f := f) n (by omega) fun i hi => hf i (by omega)
  have hfn := hf n hn
  have hS : (isum f N).toInt ≤ 12000 := by omega
  generalize (isum f N) = S at *
  rw [zsum] at hA ⊢
  generalize hA0 : zsum (fun i => (f i).toInt) n = A at *
  generalize hF : (f n).toInt = F at *
  have m1 : 0 ≤ A * g.toInt := Int.mul_nonneg b2 (by omega)
  have m2 : A * g.toInt ≤ 12000 * 12000 := Int.mul_le_mul (by omega) (by omega) (by omega) (by omega)
  have m3 : 0 ≤ (A + F) * g.toInt := Int.mul_nonneg (by omega) (by omega)
  have m4 : (A + F) * g.toInt ≤ 12000 * 12000 := Int.mul_le_mul (by omega) (by omega) (by omega) (by omega)
  have s1 : (isum f n + f n).toInt = A + F := by rw [ti_add (by omega) (by omega), b1, hF]
  have s2 : (isum f n * g).toInt = A * g.toInt := by rw [ti_mul (by rw [b1]; omega) (by rw [b1]; omega), b1]
  have s3 : ((isum f n + f n) * g).toInt = (A + F) * g.toInt := by rw [ti_mul (by rw [s1]; omega) (by rw [s1]; omega), s1]
  have d1 : (isum f n * g / S).toInt = A * g.toInt / S.toInt := by rw [ti_div (by rw [s2]; omega) (by omega), s2]
  have d2 : ((isum f n + f n) * g / S).toInt = (A + F) * g.toInt / S.toInt := by rw [ti_div (by rw [s3]; omega) (by omega), s3]
  have e1 : A * g.toInt / S.toInt ≤ (A + F) * g.toInt / S.toInt := Int.ediv_le_ediv (by omega) (Int.mul_le_mul_of_nonneg_right (by omega) (by omega))
  have e2 : (A + F) * g.toInt / S.toInt ≤ A * g.toInt / S.toInt + F := by
    rw [← Int.add_mul_ediv_right _ _ (by omega : S.toInt ≠ 0)]
    refine Int.ediv_le_ediv (by omega) ?_
    rw [Int.add_mul]
    have := Int.mul_le_mul_of_nonneg_left h2 (by omega : 0 ≤ F)
    omega
  have e3 : 0 ≤ A * g.toInt / S.toInt := Int.ediv_nonneg m1 (by omega)
  have e4 : (fG f g S n).toInt = (A + F) * g.toInt / S.toInt - A * g.toInt / S.toInt := by
    rw [fG, ti_sub (by rw [d1, d2]; omega) (by rw [d1, d2]; omega), d1, d2]
  rw [e4]; omega
theorem fG_sum {f : Nat → Int32} {g : Int32} {N : Nat} (hN : N ≤ 12) (hf : ∀ i, i < 12 → 0 ≤ (f i).toInt ∧ (f i).toInt ≤ 1000) (h1 : 1 ≤ g.toInt) (h2 : g.toInt ≤ (isum f N).toInt) : ∀ n, n ≤ 12 →
    zsum (fun i => (fG f g (isum f N) i).toInt) n = zsum (fun i => (f i).toInt) n * g.toInt / (isum f N).toInt
  | 0, _ => by simp [zsum]
  | n + 1, hn => by
    have hA := (isum_z (f := f) (n + 1) (by omega) fun i hi => hf i (by omega)).2.2
    rw [zsum, fG_sum hN hf h1 h2 n (by omega), (fG_z hN hf h1 h2 n (by omega) (by omega)).1]
    omega
theorem fG_all {f : Nat → Int32} {g : Int32} {N : Nat} (hN : N ≤ 12) (hf : ∀ i, i < 12 → 0 ≤ (f i).toInt ∧ (f i).toInt ≤ 1000) (h1 : 1 ≤ g.toInt) (h2 : g.toInt ≤ (isum f N).toInt) : zsum (fun i => (fG f g (isum f N) i).toInt) N = g.toInt := by
  rw [fG_sum hN hf h1 h2 N hN, ← (isum_z (f := f) N (by omega) fun i hi => hf i (by omega)).1]
  exact Int.mul_ediv_cancel_left _ (by omega)
theorem fG_cg {f f' : Nat → Int32} {g S S' : Int32} (hS : S = S') (n : Nat) (h : ∀ i, i ≤ n → f i = f' i) : fG f g S n = fG f' g S' n := by
  rw [fG, fG, hS, isum_cg n fun i hi => h i (by omega), h n (Nat.le_refl n)]
/-! the writes, one place at a time -/
theorem mvL_pt (L : Nat → Int32) {f t : Nat} (hft : f ≠ t) (fl : Nat → Int32) : ∀ N, N ≤ 12 → ∀ r m, m < 12 → mvL L f t fl N (r * 12 + m) = if m < N then (if r = f then L (r * 12 + m) - fl m else if r = t then L (r * 12 + m) + fl m else L (r * 12 + m)) else L (r * 12 + m)
  | 0, _, r, m, _ => by rw [mvL, if_neg (by omega)]
  | n + 1, hN, r, m, hm => by
    have ih := mvL_pt L hft fl n (by omega)
    rw [mvL]
    by_cases e : m = n
    · subst e
      rw [if_pos (by omega)]
      by_cases a : r = f
      · subst a; rw [upd_n (by omega), upd_s, if_pos rfl, ih r m hm, if_neg (by omega)]
      · by_cases b : r = t
        · subst b; rw [upd_s, upd_n (by omega), if_neg a, if_pos rfl, ih r m hm, if_neg (by omega)]
        · rw [upd_n (by omega), upd_n (by omega), if_neg a, if_neg b, ih r m hm, if_neg (by omega)]
    · rw [upd_n (by omega), upd_n (by omega), ih r m hm]
      by_cases q : m < n
      · rw [if_pos q, if_pos (show m < n + 1 by omega)]
      · rw [if_neg q, if_neg (show ¬ m < n + 1 by omega)]
theorem wzL_pt (L : Nat → Int32) {f : Nat} (hf : f ≠ 106) : ∀ N, N ≤ 12 → ∀ r m, m < 12 → wzL L f N (r * 12 + m) = if m < N then (if r = f then 0 else if r = 106 then L (r * 12 + m) + L (f * 12 + m) else L (r * 12 + m)) else L (r * 12 + m)
  | 0, _, r, m, _ => by rw [wzL, if_neg (by omega)]
  | n + 1, hN, r, m, hm => by
    have ih := wzL_pt L hf n (by omega)
    rw [wzL]
    by_cases e : m = n
    · subst e
      rw [if_pos (by omega)]
      by_cases a : r = f
      · subst a; rw [upd_n (by omega), upd_s, if_pos rfl]
      · by_cases b : r = 106
        · subst b; rw [upd_s, upd_n (by omega), if_neg a, if_pos rfl, ih 106 m hm, if_neg (by omega)]
        · rw [upd_n (by omega), upd_n (by omega), if_neg a, if_neg b, ih r m hm, if_neg (by omega)]
    · rw [upd_n (by omega), upd_n (by omega), ih r m hm]
      by_cases q : m < n
      · rw [if_pos q, if_pos (show m < n + 1 by omega)]
      · rw [if_neg q, if_neg (show ¬ m < n + 1 by omega)]
theorem subF_pt (P F : Nat → Int32) (x : Nat) : ∀ n, n ≤ 12 → ∀ p t, t < 12 → subF P F (12 * x) n (12 * p + t) = if p = x ∧ t < n then P (12 * p + t) - F t else P (12 * p + t)
  | 0, _, p, t, _ => by rw [subF, if_neg (by omega)]
  | n + 1, hn, p, t, ht => by
    have ih := subF_pt P F x n (by omega)
    rw [subF]
    by_cases e : p = x ∧ t = n
    · obtain ⟨rfl, rfl⟩ := e
      rw [upd_s, if_pos (by omega), ih p t ht, if_neg (by omega)]
    · rw [upd_n (by omega), ih p t ht]
      by_cases q : p = x ∧ t < n
      · rw [if_pos q, if_pos (by omega)]
      · rw [if_neg q, if_neg (by omega)]
theorem addF_pt (P F : Nat → Int32) (x : Nat) : ∀ n, n ≤ 12 → ∀ p t, t < 12 → addF P F (12 * x) n (12 * p + t) = if p = x ∧ t < n then P (12 * p + t) + F t else P (12 * p + t)
  | 0, _, p, t, _ => by rw [addF, if_neg (by omega)]
  | n + 1, hn, p, t, ht => by
    have ih := addF_pt P F x n (by omega)
    rw [addF]
    by_cases e : p = x ∧ t = n
    · obtain ⟨rfl, rfl⟩ := e
      rw [upd_s, if_pos (by omega), ih p t ht, if_neg (by omega)]
    · rw [upd_n (by omega), ih p t ht]
      by_cases q : p = x ∧ t < n
      · rw [if_pos q, if_pos (by omega)]
      · rw [if_neg q, if_neg (by omega)]
theorem setF_pt (P F : Nat → Int32) (x : Nat) : ∀ n, n ≤ 12 → ∀ p t, t < 12 → setF P F (12 * x) n (12 * p + t) = if p = x ∧ t < n then F t else P (12 * p + t)
  | 0, _, p, t, _ => by rw [setF, if_neg (by omega)]
  | n + 1, hn, p, t, ht => by
    have ih := setF_pt P F x n (by omega)
    rw [setF]
    by_cases e : p = x ∧ t = n
    · obtain ⟨rfl, rfl⟩ := e
      rw [upd_s, if_pos (by omega)]
    · rw [upd_n (by omega), ih p t ht]
      by_cases q : p = x ∧ t < n
      · rw [if_pos q, if_pos (by omega)]
      · rw [if_neg q, if_neg (by omega)]
theorem zerB_pt (P : Nat → Int32) (x : Nat) : ∀ n, n ≤ 12 → ∀ p t, t < 12 → zerB P (12 * x) n (12 * p + t) = if p = x ∧ t < n then 0 else P (12 * p + t)
  | 0, _, p, t, _ => by rw [zerB, if_neg (by omega)]
  | n + 1, hn, p, t, ht => by
    have ih := zerB_pt P x n (by omega)
    rw [zerB]
    by_cases e : p = x ∧ t = n
    · obtain ⟨rfl, rfl⟩ := e
      rw [upd_s, if_pos (by omega)]
    · rw [upd_n (by omega), ih p t ht]
      by_cases q : p = x ∧ t < n
      · rw [if_pos q, if_pos (by omega)]
      · rw [if_neg q, if_neg (by omega)]
theorem wstB_pt (W P : Nat → Int32) (x : Nat) : ∀ n, n ≤ 12 → ∀ t, t < 12 → wstB W P (12 * x) n t = if t < n then W t + P (12 * x + t) else W t
  | 0, _, t, _ => by rw [wstB, if_neg (by omega)]
  | n + 1, hn, t, ht => by
    have ih := wstB_pt W P x n (by omega)
    rw [wstB]
    by_cases e : t = n
    · subst e
      rw [upd_s, if_pos (by omega), ih t ht, if_neg (by omega), zerB_pt P x t (by omega) x t ht, if_neg (by omega)]
    · rw [upd_n e, ih t ht]
      by_cases q : t < n
      · rw [if_pos q, if_pos (by omega)]
      · rw [if_neg q, if_neg (by omega)]
theorem sumB_pt (s : Int32) (P : Nat → Int32) (x : Nat) : ∀ n, n ≤ 12 → sumB s P (12 * x) n = s + isum (fun t => P (12 * x + t)) n
  | 0, _ => by rw [sumB, isum, Int32.add_zero]
  | n + 1, hn => by
    rw [sumB, isum, sumB_pt s P x n (by omega), zerB_pt P x n (by omega) x n (by omega), if_neg (by omega), Int32.add_assoc]
