/-! The recipe, from the last to the first. -/
def dstep (c s : Int32 × Int32) : Int32 × Int32 := if c.2 ≤ s.2 then c else s
def cE (σ : gS) (x y z : Int32) (a b q : Nat) : Int32 × Int32 := (nI (1000 * a + 10 * b + q), rdist σ a b q x y z)
def sfx (X : Nat → List (Int32 × Int32)) (N i : Nat) : List (Int32 × Int32) := ((List.range N).drop i).flatMap X
theorem sfx_step {X : Nat → List (Int32 × Int32)} {N i : Nat} (h : i < N) : sfx X N i = X i ++ sfx X N (i + 1) := by
  unfold sfx
  rw [List.drop_eq_getElem_cons (by rw [List.length_range]; exact h), List.flatMap_cons, List.getElem_range]
theorem sfx_end (X : Nat → List (Int32 × Int32)) (N : Nat) : sfx X N N = [] := by
  unfold sfx
  rw [List.drop_of_length_le (by rw [List.length_range]; exact Nat.le_refl _)]; rfl
def lQ (σ : gS) (x y z : Int32) (a b n : Nat) : List (Int32 × Int32) := if σ.2 2 a = 0 ∨ σ.2 2 b = 0 then [] else sfx (fun q => [cE σ x y z a b q]) 5 n
def lB (σ : gS) (x y z : Int32) (a : Nat) : List (Int32 × Int32) := sfx (fun b => lQ σ x y z a b 0) 6 a
def DA (σ : gS) (x y z : Int32) (a : Nat) : Int32 × Int32 := (sfx (lB σ x y z) 6 a).foldr dstep (-1, 2147483647)
def DB (σ : gS) (x y z : Int32) (a b : Nat) : Int32 × Int32 := (sfx (fun b => lQ σ x y z a b 0) 6 b).foldr dstep (DA σ x y z (a + 1))
def DQ (σ : gS) (x y z : Int32) (a b n : Nat) : Int32 × Int32 := (lQ σ x y z a b n).foldr dstep (DB σ x y z a (b + 1))
theorem DA_6 (σ : gS) (x y z : Int32) : DA σ x y z 6 = (-1, 2147483647) := by rw [DA, sfx_end]; rfl
theorem DB_6 (σ : gS) (x y z : Int32) (a : Nat) : DB σ x y z a 6 = DA σ x y z (a + 1) := by rw [DB, sfx_end]; rfl
theorem DB_a {σ : gS} {x y z : Int32} {a : Nat} (h : a < 6) : DB σ x y z a a = DA σ x y z a := by
  rw [DA, sfx_step h, List.foldr_append]; rfl
theorem DQ_5 (σ : gS) (x y z : Int32) (a b : Nat) : DQ σ x y z a b 5 = DB σ x y z a (b + 1) := by
  rw [DQ, lQ]; split
  · rfl
  · rw [sfx_end]; rfl
theorem DQ_0 {σ : gS} {x y z : Int32} {a b : Nat} (h : b < 6) : DQ σ x y z a b 0 = DB σ x y z a b := by
  rw [DB, sfx_step h, List.foldr_append]; rfl
theorem DQ_skip {σ : gS} {x y z : Int32} {a b n : Nat} (h : σ.2 2 a = 0 ∨ σ.2 2 b = 0) : DQ σ x y z a b n = DQ σ x y z a b (n + 1) := by
  rw [DQ, DQ, lQ, lQ, if_pos h, if_pos h]
theorem DQ_step {σ : gS} {x y z : Int32} {a b n : Nat} (h : ¬ (σ.2 2 a = 0 ∨ σ.2 2 b = 0)) (hn : n < 5) : DQ σ x y z a b n = dstep (cE σ x y z a b n) (DQ σ x y z a b (n + 1)) := by
  rw [DQ, DQ, lQ, lQ, if_neg h, if_neg h, sfx_step hn, List.foldr_append]; rfl
theorem DQ_near {σ : gS} {x y z : Int32} {a b n : Nat} (h : ¬ (σ.2 2 a = 0 ∨ σ.2 2 b = 0)) (hn : n < 5) (hd : rdist σ a b n x y z ≤ (DQ σ x y z a b (n + 1)).2) : DQ σ x y z a b n = (nI (1000 * a + 10 * b + n), rdist σ a b n x y z) := by
  rw [DQ_step h hn, dstep, if_pos (show (cE σ x y z a b n).2 ≤ _ from hd)]; rfl
theorem DQ_far {σ : gS} {x y z : Int32} {a b n : Nat} (h : ¬ (σ.2 2 a = 0 ∨ σ.2 2 b = 0)) (hn : n < 5) (hd : ¬ rdist σ a b n x y z ≤ (DQ σ x y z a b (n + 1)).2) : DQ σ x y z a b n = DQ σ x y z a b (n + 1) := by
  rw [DQ_step h hn, dstep, if_neg (show ¬ (cE σ x y z a b n).2 ≤ _ from hd)]
/-! from the first to the last -/
def astep (s c : Int32 × Int32) : Int32 × Int32 := rstep c.2 c.1 s
def rT (L : List (Int32 × Int32)) : Int32 × Int32 := L.foldr dstep (-1, 2147483647)
theorem i32_max (x : Int32) : x ≤ 2147483647 := by
  rw [i32_le, show (2147483647 : Int32).toInt = 2147483647 from rfl]
  have := x.toInt_lt; omega
theorem rT_c (c : Int32 × Int32) (L : List (Int32 × Int32)) : rT (c :: L) = if L = [] ∨ c.2 ≤ (rT L).2 then c else rT L := by
  show dstep c (rT L) = _
  rw [dstep]
  by_cases e : L = []
  · subst e
    rw [if_pos (Or.inl rfl), if_pos (show c.2 ≤ (rT []).2 from i32_max _)]
  · by_cases d : c.2 ≤ (rT L).2
    · rw [if_pos d, if_pos (Or.inr d)]
    · rw [if_neg d, if_neg (fun z => z.elim e d)]
theorem as_fold (L : List (Int32 × Int32)) (hL : ∀ c ∈ L, c.1 ≠ -1) : ∀ s : Int32 × Int32, s.1 ≠ -1 → L.foldl astep s = if L = [] ∨ s.2 ≤ (rT L).2 then s else rT L := by
  induction L with
  | nil => intro s hs; rw [if_pos (Or.inl rfl)]; rfl
  | cons c L ih =>
    intro s hs
    have hc : c.1 ≠ -1 := hL c List.mem_cons_self
    have ih' := ih (fun d hd => hL d (List.mem_cons_of_mem _ hd))
    rw [List.foldl_cons]
    have hne : ¬ (c :: L = []) := fun z => by cases z
    by_cases d : s.2 ≤ c.2
    · have e1 : astep s c = s := by
        show (if s.1 = -1 ∨ ¬ s.2 ≤ c.2 then (c.1, c.2) else s) = s
        rw [if_neg (fun z => z.elim hs (fun q => q d))]
      rw [e1, ih' s hs, rT_c]
      by_cases q : L = [] ∨ c.2 ≤ (rT L).2
      · rw [if_pos q, if_pos (Or.inr d)]
        rcases q with q | q
        · rw [if_pos (Or.inl q)]
        · rw [if_pos (Or.inr (Int32.le_trans d q))]
      · rw [if_neg q]
        have q1 : ¬ L = [] := fun z => q (Or.inl z)
        by_cases w : s.2 ≤ (rT L).2
        · rw [if_pos (Or.inr w), if_pos (Or.inr w)]
        · rw [if_neg (fun z => z.elim q1 w), if_neg (fun z => z.elim hne w)]
    · have e1 : astep s c = c := by
        show (if s.1 = -1 ∨ ¬ s.2 ≤ c.2 then (c.1, c.2) else s) = c
        rw [if_pos (Or.inr d)]
      rw [e1, ih' c hc, ← rT_c]
      have h2 : (rT (c :: L)).2 ≤ c.2 := by
        rw [rT_c]
        by_cases q : L = [] ∨ c.2 ≤ (rT L).2
        · rw [if_pos q]; exact Int32.le_refl _
        · rw [if_neg q]
          have : ¬ c.2 ≤ (rT L).2 := fun z => q (Or.inr z)
          rw [i32_le] at this ⊢; omega
      rw [if_neg (fun z => z.elim hne (fun w => d (Int32.le_trans w h2)))]
theorem as_first (L : List (Int32 × Int32)) (hL : ∀ c ∈ L, c.1 ≠ -1) : (L.foldl astep (-1, 0)).1 = (rT L).1 := by
  cases L with
  | nil => rfl
  | cons c L =>
    have e1 : astep (-1, 0) c = c := by
      show (if (-1 : Int32) = -1 ∨ ¬ (0 : Int32) ≤ c.2 then (c.1, c.2) else (-1, 0)) = c
      rw [if_pos (Or.inl rfl)]
    rw [List.foldl_cons, e1, as_fold L (fun d hd => hL d (List.mem_cons_of_mem _ hd)) c (hL c List.mem_cons_self), rT_c]
theorem range_flat (X : Nat → List (Int32 × Int32)) (s : Int32 × Int32) (n : Nat) : ((List.range (n + 1)).flatMap X).foldl astep s = (X n).foldl astep (((List.range n).flatMap X).foldl astep s) := by
  rw [List.range_succ, List.flatMap_append, List.foldl_append]
  simp
theorem rP_fold (σ : gS) (x y z : Int32) (a b : Nat) (s : Int32 × Int32) : ∀ n, rP σ x y z a b s n = ((List.range n).flatMap (fun q => [cE σ x y z a b q])).foldl astep s
  | 0 => rfl
  | n + 1 => by rw [rP, rP_fold σ x y z a b s n, range_flat]; rfl
theorem rB_fold (σ : gS) (x y z : Int32) (a : Nat) (s : Int32 × Int32) : ∀ k, rB σ x y z a s k = ((List.range k).flatMap (fun j => lQ σ x y z a (a + j) 0)).foldl astep s
  | 0 => rfl
  | k + 1 => by
    rw [rB, rB_fold σ x y z a s k, range_flat, lQ]
    split
    · rfl
    · rw [rP_fold]; rfl
theorem lB_eq (σ : gS) (x y z : Int32) (a : Nat) (h : a < 6) : lB σ x y z a = (List.range (6 - a)).flatMap (fun j => lQ σ x y z a (a + j) 0) := by
  match a, h with
  | 0, _ => rfl
  | 1, _ => rfl
  | 2, _ => rfl
  | 3, _ => rfl
  | 4, _ => rfl
  | 5, _ => rfl
theorem rA_fold (σ : gS) (x y z : Int32) : ∀ n, n ≤ 6 → rA σ x y z 6 n = ((List.range n).flatMap (lB σ x y z)).foldl astep (-1, 0)
  | 0, _ => rfl
  | n + 1, h => by rw [rA, rA_fold σ x y z n (by omega), rB_fold, range_flat, lB_eq σ x y z n (by omega)]
theorem lQ_key (σ : gS) (x y z : Int32) {a b n : Nat} (ha : a < 6) (hb : b < 6) : ∀ c ∈ lQ σ x y z a b n, c.1 ≠ -1 := by
  intro c hc
  rw [lQ] at hc
  split at hc
  · cases hc
  · unfold sfx at hc
    obtain ⟨q, hq, hc⟩ := List.mem_flatMap.mp hc
    have hq5 : q < 5 := List.mem_range.mp (List.mem_of_mem_drop hq)
    rw [List.mem_singleton.mp hc]
    exact nI_nm1 (by omega)
theorem rA_DA (σ : gS) (x y z : Int32) : (rA σ x y z 6 6).1 = (DA σ x y z 0).1 := by
  rw [rA_fold σ x y z 6 (Nat.le_refl 6), as_first]
  · rfl
  · intro c hc
    obtain ⟨a, ha, hc⟩ := List.mem_flatMap.mp hc
    have ha6 : a < 6 := List.mem_range.mp ha
    unfold lB sfx at hc
    obtain ⟨b, hb, hc⟩ := List.mem_flatMap.mp hc
    have hb6 : b < 6 := List.mem_range.mp (List.mem_of_mem_drop hb)
    exact lQ_key σ x y z ha6 hb6 c hc
/-! counting down -/
theorem pd_0 {a : Nat} (h : a ≤ 6) (c : nI a - 1 < 0) : a = 0 := Classical.byContradiction (fun z => by
  have e1 : nI a - 1 = nI (a - 1) := pk_sub (a := a) (b := 1) (by omega)
  rw [e1] at c; exact nI_pos (by omega) c)
theorem pd_1 {a : Nat} (c : ¬ nI a - 1 < 0) : ∃ b, a = b + 1 := by
  have h1 : ¬ a = 0 := fun z => c (by rw [z]; decide)
  exact ⟨a - 1, by omega⟩
theorem pd_lt {a b : Nat} (ha : a ≤ 6) (hb : b ≤ 6) (c : nI b - 1 < nI a) : b ≤ a := Classical.byContradiction (fun z => by
  have e1 : nI b - 1 = nI (b - 1) := pk_sub (a := b) (b := 1) (by omega)
  rw [e1] at c
  have := (nI_ltI (a := b - 1) (b := a) (by omega) (by omega)).mp c
  omega)
theorem pd_ge {a b : Nat} (ha : a ≤ 6) (hb : b ≤ 6) (c : ¬ nI b - 1 < nI a) : ∃ d, b = d + 1 ∧ a ≤ d := by
  by_cases z : b = 0
  · exact absurd (by rw [z, i32_lt, nI_toInt (by omega), show (nI 0 - 1 : Int32).toInt = -1 from rfl]; omega) c
  · refine ⟨b - 1, by omega, ?_⟩
    have e1 : nI b - 1 = nI (b - 1) := pk_sub (a := b) (b := 1) (by omega)
    rw [e1] at c
    exact Classical.byContradiction (fun q => c ((nI_ltI (a := b - 1) (b := a) (by omega) (by omega)).mpr (by omega)))
theorem le_z {x : Int32} (h : 0 ≤ x.toInt) : x ≤ 0 ↔ x = 0 := by
  rw [i32_le, i32_eq, show (0 : Int32).toInt = 0 from rfl]; omega
