/-! The calls that catch, over a book of 4 pigments, 6 tubes, 4 pots, 4 pictures. -/
theorem k0_squeeze (l : Launch) (D : va_G) (cI cJ : ClassId) (hst : l.stackTraces = false) (h : Nat → Nat) (σ : gS) (hI : iA σ 4 6 4 4) (a b : Nat) (z : Int32) (ha : a < 2 ^ 31) (hb : b < 2 ^ 31) (hK : 0 = th_squeeze σ 6 4 (nI a) (nI b) z) : MC l yL_calls wsL_calls 8 162 D (tyIJ cI cJ) [.ref (h 0), .int 0, .int (nI a), .int (nI b), .int z] (wA cI h σ) (wA cI h (s_squeeze σ a b z)) none (some (.int (σ.2 2 b - z))) 0 := by
  have hh := c_k_squeeze l D cI cJ hst h σ 4 6 4 4 hI (nI a) (nI b) z 0 hK (Or.inl rfl)
  rw [cl_nI ha, cl_nI hb] at hh
  exact hh
theorem k3_squeeze (l : Launch) (D : va_G) (cI cJ : ClassId) (hst : l.stackTraces = false) (h : Nat → Nat) (σ : gS) (hI : iA σ 4 6 4 4) (a b : Nat) (z : Int32) (ha : a < 2 ^ 31) (hb : b < 2 ^ 31) (hK : 3 = th_squeeze σ 6 4 (nI a) (nI b) z) : MC l yL_calls wsL_calls 8 162 D (tyIJ cI cJ) [.ref (h 0), .int 0, .int (nI a), .int (nI b), .int z] (wA cI h σ) (wA cI h σ) none (some (.int (-1003))) 1 :=
  c_k_squeeze l D cI cJ hst h σ 4 6 4 4 hI (nI a) (nI b) z 3 hK (Or.inr rfl)
theorem k0_pour (l : Launch) (D : va_G) (cI cJ : ClassId) (hst : l.stackTraces = false) (h : Nat → Nat) (σ : gS) (hI : iA σ 4 6 4 4) (a b : Nat) (z : Int32) (ha : a < 2 ^ 31) (hb : b < 2 ^ 31) (hK : 0 = th_pour σ 6 4 (nI a) (nI b) z) : MC l yL_calls wsL_calls 8 162 D (tyIJ cI cJ) [.ref (h 0), .int 1, .int (nI a), .int (nI b), .int z] (wA cI h σ) (wA cI h (sA σ 3 (mvS σ 6 a b z))) none (some (.int (rowS (mvS σ 6 a b z) b 6))) 0 := by
  have hh := c_k_pour l D cI cJ hst h σ 4 6 4 4 hI (nI a) (nI b) z 0 hK (Or.inl rfl)
  rw [cl_nI ha, cl_nI hb] at hh
  exact hh
theorem k3_pour (l : Launch) (D : va_G) (cI cJ : ClassId) (hst : l.stackTraces = false) (h : Nat → Nat) (σ : gS) (hI : iA σ 4 6 4 4) (a b : Nat) (z : Int32) (ha : a < 2 ^ 31) (hb : b < 2 ^ 31) (hK : 3 = th_pour σ 6 4 (nI a) (nI b) z) : MC l yL_calls wsL_calls 8 162 D (tyIJ cI cJ) [.ref (h 0), .int 1, .int (nI a), .int (nI b), .int z] (wA cI h σ) (wA cI h σ) none (some (.int (-1003))) 1 :=
  c_k_pour l D cI cJ hst h σ 4 6 4 4 hI (nI a) (nI b) z 3 hK (Or.inr rfl)
theorem k0_paint (l : Launch) (D : va_G) (cI cJ : ClassId) (hst : l.stackTraces = false) (h : Nat → Nat) (σ : gS) (hI : iA σ 4 6 4 4) (a b : Nat) (z : Int32) (ha : a < 2 ^ 31) (hb : b < 2 ^ 31) (hK : 0 = th_paint σ 6 4 4 (nI a) (nI b) z) : MC l yL_calls wsL_calls 8 162 D (tyIJ cI cJ) [.ref (h 0), .int 2, .int (nI a), .int (nI b), .int z] (wA cI h σ) (wA cI h (s_paint σ 6 a b z)) none (some (.int (nI (cl (σ.2 4 a) + 1)))) 0 := by
  have hh := c_k_paint l D cI cJ hst h σ 4 6 4 4 hI (nI a) (nI b) z 0 hK (Or.inl rfl)
  rw [cl_nI ha, cl_nI hb] at hh
  exact hh
theorem k3_paint (l : Launch) (D : va_G) (cI cJ : ClassId) (hst : l.stackTraces = false) (h : Nat → Nat) (σ : gS) (hI : iA σ 4 6 4 4) (a b : Nat) (z : Int32) (ha : a < 2 ^ 31) (hb : b < 2 ^ 31) (hK : 3 = th_paint σ 6 4 4 (nI a) (nI b) z) : MC l yL_calls wsL_calls 8 162 D (tyIJ cI cJ) [.ref (h 0), .int 2, .int (nI a), .int (nI b), .int z] (wA cI h σ) (wA cI h σ) none (some (.int (-1003))) 1 :=
  c_k_paint l D cI cJ hst h σ 4 6 4 4 hI (nI a) (nI b) z 3 hK (Or.inr rfl)
theorem k0_clean (l : Launch) (D : va_G) (cI cJ : ClassId) (hst : l.stackTraces = false) (h : Nat → Nat) (σ : gS) (hI : iA σ 4 6 4 4) (a b : Nat) (c0 : Int32) (ha : a < 2 ^ 31) (hb : b < 2 ^ 31) (hK : 0 = th_clean σ 4 (nI a) (nI b)) : MC l yL_calls wsL_calls 8 162 D (tyIJ cI cJ) [.ref (h 0), .int 3, .int (nI a), .int (nI b), .int c0] (wA cI h σ) (wA cI h (s_clean σ 6 a b)) none (some (.int (clS (σ.2 3) 6 a (cl (σ.2 4 a)) b))) 0 := by
  have hh := c_k_clean l D cI cJ hst h σ 4 6 4 4 hI (nI a) (nI b) c0 0 hK (Or.inl rfl)
  rw [cl_nI ha, cl_nI hb] at hh
  exact hh
theorem k3_clean (l : Launch) (D : va_G) (cI cJ : ClassId) (hst : l.stackTraces = false) (h : Nat → Nat) (σ : gS) (hI : iA σ 4 6 4 4) (a b : Nat) (c0 : Int32) (ha : a < 2 ^ 31) (hb : b < 2 ^ 31) (hK : 3 = th_clean σ 4 (nI a) (nI b)) : MC l yL_calls wsL_calls 8 162 D (tyIJ cI cJ) [.ref (h 0), .int 3, .int (nI a), .int (nI b), .int c0] (wA cI h σ) (wA cI h σ) none (some (.int (-1003))) 1 :=
  c_k_clean l D cI cJ hst h σ 4 6 4 4 hI (nI a) (nI b) c0 3 hK (Or.inr rfl)
theorem k0_lend (l : Launch) (D : va_G) (cI cJ : ClassId) (hst : l.stackTraces = false) (h : Nat → Nat) (σ : gS) (hI : iA σ 4 6 4 4) (a b : Nat) (z : Int32) (ha : a < 2 ^ 31) (hb : b < 2 ^ 31) (hK : 0 = th_lend σ 4 (nI a) (nI b) z) : MC l yL_calls wsL_calls 8 162 D (tyIJ cI cJ) [.ref (h 0), .int 4, .int (nI a), .int (nI b), .int z] (wA cI h σ) (wA cI h (s_lend σ 4 6 4 a b z)) none (some (.int (valA σ 4 6 4 a / 100 + 1))) 0 := by
  have hh := c_k_lend l D cI cJ hst h σ 4 6 4 4 hI (nI a) (nI b) z 0 hK (Or.inl rfl)
  rw [cl_nI ha, cl_nI hb] at hh
  exact hh
theorem k3_lend (l : Launch) (D : va_G) (cI cJ : ClassId) (hst : l.stackTraces = false) (h : Nat → Nat) (σ : gS) (hI : iA σ 4 6 4 4) (a b : Nat) (z : Int32) (ha : a < 2 ^ 31) (hb : b < 2 ^ 31) (hK : 3 = th_lend σ 4 (nI a) (nI b) z) : MC l yL_calls wsL_calls 8 162 D (tyIJ cI cJ) [.ref (h 0), .int 4, .int (nI a), .int (nI b), .int z] (wA cI h σ) (wA cI h σ) none (some (.int (-1003))) 1 :=
  c_k_lend l D cI cJ hst h σ 4 6 4 4 hI (nI a) (nI b) z 3 hK (Or.inr rfl)
theorem k0_sell (l : Launch) (D : va_G) (cI cJ : ClassId) (hst : l.stackTraces = false) (h : Nat → Nat) (σ : gS) (hI : iA σ 4 6 4 4) (a : Nat) (z c0 : Int32) (ha : a < 2 ^ 31) (hK : 0 = th_sell σ 4 (nI a) z) : MC l yL_calls wsL_calls 8 162 D (tyIJ cI cJ) [.ref (h 0), .int 5, .int (nI a), .int z, .int c0] (wA cI h σ) (wA cI h (s_sell σ a z)) none (some (.int (valA (s_sell σ a z) 4 6 4 a))) 0 := by
  have hh := c_k_sell l D cI cJ hst h σ 4 6 4 4 hI (nI a) z c0 0 hK (Or.inl rfl)
  rw [cl_nI ha] at hh
  exact hh
theorem k3_sell (l : Launch) (D : va_G) (cI cJ : ClassId) (hst : l.stackTraces = false) (h : Nat → Nat) (σ : gS) (hI : iA σ 4 6 4 4) (a : Nat) (z c0 : Int32) (ha : a < 2 ^ 31) (hK : 3 = th_sell σ 4 (nI a) z) : MC l yL_calls wsL_calls 8 162 D (tyIJ cI cJ) [.ref (h 0), .int 5, .int (nI a), .int z, .int c0] (wA cI h σ) (wA cI h σ) none (some (.int (-1003))) 1 :=
  c_k_sell l D cI cJ hst h σ 4 6 4 4 hI (nI a) z c0 3 hK (Or.inr rfl)
