/-! The book and the law's arrays tell the same. -/
def hsL (σ : gS) (q : Nat) : Int32 := if ¬ σ.2 7 q ≤ 0 then nI (cl (σ.2 8 q) + 1) else 0
def inv24 (σ : gS) (T : Nat) : Prop := iA σ 4 6 4 4 ∧ nInv σ 6 4 ∧ smlV σ T ∧ σ.1 4 = nI T ∧ (∀ q, 4 ≤ q → q < 8 → σ.2 4 q = 0)
def rel24 (σ τ : gS) : Prop := relV σ τ ∧ (∀ t, t < 6 → τ.2 1 (3 * t + 1) = σ.2 2 t) ∧ (∀ t, t < 6 → τ.2 1 (3 * t + 2) = σ.2 3 (106 * 12 + t)) ∧
  (∀ q t, q < 4 → t < 6 → τ.2 2 (6 * q + t) = σ.2 3 (q * 12 + t)) ∧ (∀ q, q < 4 → τ.2 5 (7 * q + 3) = hsL σ q) ∧ (∀ q, q < 4 → τ.2 5 (7 * q + 4) = σ.2 7 q) ∧ (∀ q, q < 4 → τ.2 5 (7 * q + 5) = σ.2 9 q) ∧
  (∀ h, h < 4 → τ.2 6 h = σ.2 10 h) ∧ (∀ h, h < 4 → τ.2 6 (4 + h) = σ.2 11 h) ∧ (∀ i, i < 12 → τ.2 0 i = σ.2 0 i)
theorem inv_pig {σ : gS} {T : Nat} (h : inv24 σ T) : ∀ t, t < 6 → ∃ j, j < 4 ∧ σ.2 1 t = nI j := by
  intro t ht
  obtain ⟨j, hj, ej⟩ := h.1.2.2.2.2.1 t
  have h1 := h.2.1.2.2.2.2.2.2.2.2 t ht
  rw [h.1.1.1, ej, nI_toInt (by omega), nI_toInt (by omega)] at h1
  exact ⟨j, by omega, ej⟩
theorem inv_gr {σ : gS} {T : Nat} (h : inv24 σ T) : ∀ t, t < 6 → 0 ≤ (σ.2 2 t).toInt := fun t ht => (h.2.1.1 t (by omega)).1
theorem out_in {a lo M : Nat} (h1 : lo ≤ a) (h2 : a ≤ M) (h3 : M < 2 ^ 31) : ¬ out (nI a) (nI lo) (nI M) := by
  rintro (q | q)
  · exact absurd ((nI_ltI (by omega) (by omega)).mp q) (by omega)
  · exact q ((nI_leI (by omega) (by omega)).mpr h2)
theorem th_has0 {k t : Nat} (hk : k < 4) (ht : t < 6) : 0 = th_has 6 4 (nI k) (nI t) := by
  rw [th_has, if_neg (nb_in hk (by decide)), if_neg (fun z => absurd z.2 (nb_in ht (by decide)))]
theorem th_has1 {k : Nat} (hk : k < 4) : 0 = th_has 6 4 (nI k) (-1) := by
  rw [th_has, if_neg (nb_in hk (by decide)), if_neg (fun z => z.1 rfl)]
theorem th_col0 {k w : Nat} (hk : k < 4) (hw : w < 3) : 0 = th_colour 4 (nI k) (nI w) := by
  rw [th_colour, if_neg (nb_in hk (by decide)), if_neg (show ¬ out (nI w) 0 2 from out_in (a := w) (lo := 0) (M := 2) (by omega) (by omega) (by decide))]
theorem th_of0 {k v : Nat} (hk : k < 4) (hv : v < 9) : 0 = th_of 4 (nI k) (nI v) := by
  rw [th_of, if_neg (nb_in hk (by decide)), if_neg (show ¬ out (nI v) 0 8 from out_in (a := v) (lo := 0) (M := 8) (by omega) (by omega) (by decide))]
theorem th_lay0 {σ : gS} {k j t jl : Nat} (hk : k < 4) (ej : σ.2 4 k = nI jl) (hjl : jl < 2 ^ 31) (hj : j < jl) (ht : t < 6) : 0 = th_layer σ 6 4 (nI k) (nI j) (nI t) := by
  rw [th_layer, if_neg]
  rintro (q | q | q)
  · exact nb_in hk (by decide) q
  · rw [cl_nI (by omega), ej] at q; exact nb_in hj hjl q
  · exact nb_in ht (by decide) q
theorem th_wh0 {t v : Nat} (ht : t < 6) (hv : v < 4) : 0 = th_where 6 (nI t) (nI v) := by
  rw [th_where, if_neg (nb_in ht (by decide)), if_neg (show ¬ out (nI v) 0 3 from out_in (a := v) (lo := 0) (M := 3) (by omega) (by omega) (by decide))]
theorem th_left0 {t : Nat} (ht : t < 6) : 0 = th_left 6 (nI t) := by rw [th_left, if_neg (nb_in ht (by decide))]
theorem th_paid0 {t : Nat} (ht : t < 4) : 0 = th_paid (nI t) := by rw [th_paid, if_neg (show ¬ bad (nI t) 4 from nb_in (N := 4) ht (by decide))]
theorem th_rec0 {a b c : Nat} (ha : a < 256) (hb : b < 256) (hc : c < 256) : 0 = th_recipe (nI a) (nI b) (nI c) := by
  rw [th_recipe, if_neg]
  rintro (q | q | q)
  · exact out_in (a := a) (lo := 0) (M := 255) (by omega) (by omega) (by decide) q
  · exact out_in (a := b) (lo := 0) (M := 255) (by omega) (by omega) (by decide) q
  · exact out_in (a := c) (lo := 0) (M := 255) (by omega) (by omega) (by decide) q
theorem has_t {σ : gS} {k t : Nat} (hk : k < 4) (ht : t < 6) : r_has σ 6 (cl (nI k)) (nI t) = σ.2 3 (k * 12 + t) := by
  rw [r_has, if_neg (nI_nm1 (by omega)), cl_nI (by omega), cl_nI (by omega)]
theorem has_1 {σ : gS} {k : Nat} (hk : k < 4) : r_has σ 6 (cl (nI k)) (-1) = rowS (σ.2 3) k 6 := by
  rw [r_has, if_pos rfl, cl_nI (by omega)]
theorem of_0 {σ : gS} {k : Nat} (hk : k < 4) : r_of σ 4 6 4 (cl (nI k)) (cl 0) = σ.2 4 k := by rw [cl_nI (by omega)]; rfl
theorem of_1 {σ : gS} {k : Nat} (hk : k < 4) : r_of σ 4 6 4 (cl (nI k)) (cl 1) = σ.2 5 k := by rw [cl_nI (by omega)]; rfl
theorem of_2 {σ : gS} {k : Nat} (hk : k < 4) : r_of σ 4 6 4 (cl (nI k)) (cl 2) = valA σ 4 6 4 k := by rw [cl_nI (by omega)]; rfl
theorem of_3 {σ : gS} {k : Nat} (hk : k < 4) : r_of σ 4 6 4 (cl (nI k)) (cl 3) = mpo σ 4 6 k := by rw [cl_nI (by omega)]; rfl
theorem of_4 {σ : gS} {k : Nat} (hk : k < 4) : r_of σ 4 6 4 (cl (nI k)) (cl 4) = if ¬ σ.2 7 k ≤ 0 then σ.2 8 k else -1 := by rw [cl_nI (by omega)]; rfl
theorem of_5 {σ : gS} {k : Nat} (hk : k < 4) : r_of σ 4 6 4 (cl (nI k)) (cl 5) = σ.2 7 k := by rw [cl_nI (by omega)]; rfl
theorem of_6 {σ : gS} {k w : Nat} (hk : k < 4) (hw : w < 3) : r_of σ 4 6 4 (cl (nI k)) (cl (nI (6 + w))) = lko σ 6 k w := by
  rw [cl_nI (by omega), cl_nI (by omega), r_of, if_neg (by omega), if_neg (by omega), if_neg (by omega), if_neg (by omega), if_neg (by omega), if_neg (by omega), Nat.add_sub_cancel_left]
def topX (σ : gS) (k t : Nat) : Int32 := if σ.2 4 k = 0 then 0 else σ.2 3 (topR σ k * 12 + t)
theorem isum_0 {f : Nat → Int32} : ∀ n, (∀ i, f i = 0) → isum f n = 0
  | 0, _ => rfl
  | n + 1, h => by rw [isum, isum_0 n h, h n]; rfl
theorem look_x (σ : gS) (k w : Nat) : lko σ 6 k w = if isum (fun t => topX σ k t) 6 = 0 then -1 else isum (fun t => topX σ k t * colT σ t w) 6 / isum (fun t => topX σ k t) 6 := by
  rw [lko]
  by_cases c : σ.2 4 k = 0
  · rw [if_pos c, isum_0 6 (fun i => by rw [topX, if_pos c]), if_pos rfl]
  · have e : ∀ t, topX σ k t = σ.2 3 (topR σ k * 12 + t) := fun t => by rw [topX, if_neg c]
    rw [if_neg c]
    simp only [e]
    rfl
theorem hs_1 {σ : gS} (h : iA σ 4 6 4 4) (q : Nat) : hsL σ q - 1 = if ¬ σ.2 7 q ≤ 0 then σ.2 8 q else -1 := by
  obtain ⟨j, hj, ej⟩ := h.2.2.2.2.2.2 q
  rw [hsL]
  split
  · rw [ej, cl_nI (by omega), nI_pred]
  · decide
theorem pot_row {σ τ : gS} (h : rel24 σ τ) {q : Nat} (hq : q < 4) : ∀ n, n ≤ 6 → potL τ q n = rowS (σ.2 3) q n
  | 0, _ => rfl
  | n + 1, hn => by
    show potL τ q n + τ.2 2 (6 * q + n) = rowS (σ.2 3) q n + σ.2 3 (q * 12 + n)
    rw [pot_row h hq n (by omega), h.2.2.2.1 q n hq (by omega)]
theorem pots_4 {σ : gS} {T : Nat} (h : inv24 σ T) {t : Nat} (ht : t < 6) : tubS (σ.2 3) t 0 10 = σ.2 3 (0 * 12 + t) + σ.2 3 (1 * 12 + t) + σ.2 3 (2 * 12 + t) + σ.2 3 (3 * 12 + t) := by
  have e : tubS (σ.2 3) t 0 10 = tubS (σ.2 3) t 0 4 := isum_to (by omega) (fun i h1 h2 => by
    show σ.2 3 ((0 + i) * 12 + t) = 0
    rw [Nat.zero_add]; exact h.2.1.2.2.1 i t h2 (by omega) (Or.inr h1))
  rw [e]
  show 0 + σ.2 3 ((0 + 0) * 12 + t) + σ.2 3 ((0 + 1) * 12 + t) + σ.2 3 ((0 + 2) * 12 + t) + σ.2 3 ((0 + 3) * 12 + t) = _
  rw [Int32.zero_add]
theorem blk {f : Nat → Int32} (m : Nat) (h : ∀ i, 3 ≤ i → i < 12 → f (m + i) = 0) : isum f (m + 12) = isum f m + f m + f (m + 1) + f (m + 2) := by
  have e : isum f (m + 12) = isum f (m + 3) := isum_to (by omega) (fun i h1 h2 => by
    have := h (i - m) (by omega) (by omega)
    rwa [show m + (i - m) = i by omega] at this)
  rw [e]; rfl
theorem blk0 {f : Nat → Int32} (m : Nat) (h : ∀ i, i < 12 → f (m + i) = 0) : isum f (m + 12) = isum f m :=
  isum_to (by omega) (fun i h1 h2 => by
    have := h (i - m) (by omega)
    rwa [show m + (i - m) = i by omega] at this)
theorem pics_12 {σ τ : gS} {T : Nat} (h : inv24 σ T) (hr : rel24 σ τ) {t : Nat} (ht : t < 6) : tubS (σ.2 3) t 10 96 = isum (fun k => grL τ k t) 12 := by
  have hz : ∀ q k, q < 8 → k < 12 → cl (σ.2 4 q) ≤ k → σ.2 3 ((10 + (q * 12 + k)) * 12 + t) = 0 := fun q k h1 h2 h3 => by
    have := h.2.1.2.2.2.2.1 q k t h1 h2 (by omega) (Or.inr h3)
    rwa [show 10 + q * 12 + k = 10 + (q * 12 + k) by omega] at this
  have hl : ∀ q, q < 4 → cl (σ.2 4 q) ≤ 3 := fun q hq => by
    obtain ⟨j, hj, ej⟩ := h.2.2.1.1 q hq
    rw [ej, cl_nI (by omega)]; exact hj
  have hl0 : ∀ q, 4 ≤ q → q < 8 → cl (σ.2 4 q) = 0 := fun q h1 h2 => by rw [h.2.2.2.2 q h1 h2]; rfl
  have hg : ∀ q k, q < 4 → k < 3 → σ.2 3 ((10 + (q * 12 + k)) * 12 + t) = grL τ (3 * q + k) t := fun q k h1 h2 => by
    rw [hr.1.2.1 q k t h1 h2 ht, show 10 + q * 12 + k = 10 + (q * 12 + k) by omega]
  have b3 : ∀ q, q < 4 → ∀ i, 3 ≤ i → i < 12 → σ.2 3 ((10 + (q * 12 + i)) * 12 + t) = 0 := fun q hq i h1 h2 => hz q i (by omega) h2 (Nat.le_trans (hl q hq) h1)
  have b0 : ∀ q, 4 ≤ q → q < 8 → ∀ i, i < 12 → σ.2 3 ((10 + (q * 12 + i)) * 12 + t) = 0 := fun q h1 h2 i h3 => hz q i h2 h3 (by rw [hl0 q h1 h2]; omega)
  have e0 := blk (f := fun i => σ.2 3 ((10 + i) * 12 + t)) (0 * 12) (b3 0 (by decide))
  have e1 := blk (f := fun i => σ.2 3 ((10 + i) * 12 + t)) (1 * 12) (b3 1 (by decide))
  have e2 := blk (f := fun i => σ.2 3 ((10 + i) * 12 + t)) (2 * 12) (b3 2 (by decide))
  have e3 := blk (f := fun i => σ.2 3 ((10 + i) * 12 + t)) (3 * 12) (b3 3 (by decide))
  have e4 := blk0 (f := fun i => σ.2 3 ((10 + i) * 12 + t)) (4 * 12) (b0 4 (by decide) (by decide))
  have e5 := blk0 (f := fun i => σ.2 3 ((10 + i) * 12 + t)) (5 * 12) (b0 5 (by decide) (by decide))
  have e6 := blk0 (f := fun i => σ.2 3 ((10 + i) * 12 + t)) (6 * 12) (b0 6 (by decide) (by decide))
  have e7 := blk0 (f := fun i => σ.2 3 ((10 + i) * 12 + t)) (7 * 12) (b0 7 (by decide) (by decide))
  have g0 := hg 0; have g1 := hg 1; have g2 := hg 2; have g3 := hg 3
  show isum (fun i => σ.2 3 ((10 + i) * 12 + t)) 96 = 0 + grL τ 0 t + grL τ 1 t + grL τ 2 t + grL τ 3 t + grL τ 4 t + grL τ 5 t + grL τ 6 t + grL τ 7 t + grL τ 8 t + grL τ 9 t + grL τ 10 t + grL τ 11 t
  have c : ∀ q k, q < 4 → k < 3 → grL τ (3 * q + k) t = (fun i => σ.2 3 ((10 + i) * 12 + t)) (q * 12 + k) := fun q k h1 h2 => (hg q k h1 h2).symm
  rw [show grL τ 0 t = _ from c 0 0 (by decide) (by decide), show grL τ 1 t = _ from c 0 1 (by decide) (by decide), show grL τ 2 t = _ from c 0 2 (by decide) (by decide),
    show grL τ 3 t = _ from c 1 0 (by decide) (by decide), show grL τ 4 t = _ from c 1 1 (by decide) (by decide), show grL τ 5 t = _ from c 1 2 (by decide) (by decide),
    show grL τ 6 t = _ from c 2 0 (by decide) (by decide), show grL τ 7 t = _ from c 2 1 (by decide) (by decide), show grL τ 8 t = _ from c 2 2 (by decide) (by decide),
    show grL τ 9 t = _ from c 3 0 (by decide) (by decide), show grL τ 10 t = _ from c 3 1 (by decide) (by decide), show grL τ 11 t = _ from c 3 2 (by decide) (by decide)]
  exact e7.trans (e6.trans (e5.trans (e4.trans (by
    rw [show (4 * 12 : Nat) = 3 * 12 + 12 from rfl, e3, show (3 * 12 : Nat) = 2 * 12 + 12 from rfl, e2, show (2 * 12 : Nat) = 1 * 12 + 12 from rfl, e1, show (1 * 12 : Nat) = 0 * 12 + 12 from rfl, e0]
    rfl))))
theorem wh_0 {σ : gS} {t : Nat} (ht : t < 6) : r_where σ (cl (nI t)) (cl 0) = σ.2 2 t := by rw [cl_nI (by omega)]; rfl
theorem wh_1 {σ : gS} {T t : Nat} (h : inv24 σ T) (ht : t < 6) : r_where σ (cl (nI t)) (cl 1) = σ.2 3 (0 * 12 + t) + σ.2 3 (1 * 12 + t) + σ.2 3 (2 * 12 + t) + σ.2 3 (3 * 12 + t) := by
  rw [cl_nI (by omega)]; exact pots_4 h ht
theorem wh_2 {σ τ : gS} {T t : Nat} (h : inv24 σ T) (hr : rel24 σ τ) (ht : t < 6) : r_where σ (cl (nI t)) (cl 2) = isum (fun k => grL τ k t) 12 := by
  rw [cl_nI (by omega)]; exact pics_12 h hr ht
theorem wh_3 {σ : gS} {t : Nat} (ht : t < 6) : r_where σ (cl (nI t)) (cl 3) = σ.2 3 (106 * 12 + t) := by
  rw [cl_nI (by omega)]
  show 0 + σ.2 3 ((106 + 0) * 12 + t) = _
  rw [Int32.zero_add]
