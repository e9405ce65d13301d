/-! The law's small methods. -/
set_option maxRecDepth 100000 in
set_option maxHeartbeats 4000000 in
theorem c_low (l : Launch) (D : va_G) (cI cJ : ClassId) (w : va_W) (v : Int32) (n a : Nat) (h0 : 0 < n) (hn : n < 2 ^ 31) (ha : lowN v n = a) : MC l yL_low wsL_low 0 0 D (tyIJ cI cJ) [.int (v), .int (nI (n))] w w none (some (.int (nI a))) 0 := by
  refine MC.ofG (cc := cL_low) (maxL := 2) (ret := (some .int)) [(0, .int (v)), (1, .int (nI (n)))] (by decide) rfl (Nat.le_of_ble_eq_true rfl) rfl ?_
  intro p e s m args below meth c C hr hout
  refine g_iload_n 0 C rfl dL_low_0 rfl ?_
  refine g_ldc 2147483647 C (by decide +kernel) dL_low_1 ?_
  refine g_iand C dL_low_3 ?_
  refine g_is (nI (v.toBitVec.toNat % 2 ^ 31)) (pk_and v 31 (by decide)) ?_
  refine g_iload_n 1 C rfl dL_low_4 rfl ?_
  refine g_iremN (v.toBitVec.toNat % 2 ^ 31) n C (by omega) (by omega) (by omega) dL_low_5 ?_
  exact g_iret C hr rfl dL_low_6 (Nat.zero_le _) (Nat.zero_le _) rfl (by rw [← ha]; rfl) rfl
set_option maxRecDepth 100000 in
set_option maxHeartbeats 4000000 in
theorem c_at (l : Launch) (D : va_G) (cI cJ : ClassId) (w : va_W) (a b : Nat) : MC l yL_at wsL_at 0 0 D (tyIJ cI cJ) [.int (nI (a)), .int (nI (b))] w w none (some (.int (nI (3 * a + b)))) 0 := by
  refine MC.ofG (cc := cL_at) (maxL := 2) (ret := (some .int)) [(0, .int (nI (a))), (1, .int (nI (b)))] (by decide) rfl (Nat.le_of_ble_eq_true rfl) rfl ?_
  intro p e s m args below meth c C hr hout
  refine g_iconst 3 C dL_at_0 (by decide) ?_
  refine g_iload_n 0 C rfl dL_at_1 rfl ?_
  refine g_imulN 3 a C dL_at_2 ?_
  refine g_iload_n 1 C rfl dL_at_3 rfl ?_
  refine g_iaddN (3 * a) b C dL_at_4 ?_
  exact g_iret C hr rfl dL_at_5 (Nat.zero_le _) (Nat.zero_le _) rfl rfl rfl
set_option maxRecDepth 100000 in
set_option maxHeartbeats 4000000 in
theorem c_shade (l : Launch) (D : va_G) (cI cJ : ClassId) (w : va_W) (x y : Int32) : MC l yL_shade wsL_shade 0 0 D (tyIJ cI cJ) [.int (x), .int (y)] w w none (some (.int (if y = 0 then -1 else x / y))) 0 := by
  refine MC.ofG (cc := cL_shade) (maxL := 2) (ret := (some .int)) [(0, .int (x)), (1, .int (y))] (by decide) rfl (Nat.le_of_ble_eq_true rfl) rfl ?_
  intro p e s m args below meth c C hr hout
  refine g_iload_n 1 C rfl dL_shade_0 rfl ?_
  refine g_if_ne 8 C dL_shade_1 (by decide) (fun c_1_1 => ?_) (fun c_1_1 => ?_)
  ·
    refine g_iload_n 0 C rfl dL_shade_8 rfl ?_
    refine g_iload_n 1 C rfl dL_shade_9 rfl ?_
    refine g_idiv C c_1_1 dL_shade_10 ?_
    exact g_iret C hr rfl dL_shade_11 (Nat.zero_le _) (Nat.zero_le _) rfl (by rw [if_neg c_1_1]) rfl
  ·
    refine g_iconst (-1) C dL_shade_4 (by decide) ?_
    refine g_goto 11 C dL_shade_5 (by decide) ?_
    exact g_iret C hr rfl dL_shade_11 (Nat.zero_le _) (Nat.zero_le _) rfl (by rw [if_pos c_1_1]) rfl
set_option maxRecDepth 100000 in
set_option maxHeartbeats 4000000 in
theorem c_grams (l : Launch) (D : va_G) (cI cJ : ClassId) (g : Nat → Nat) (τ : gS) (k t : Nat) (hk : k < 12) (ht : t < 6) : MC l yL_grams wsL_grams 0 0 D (tyIJ cI cJ) [.int (nI (k)), .int (nI (t)), .ref (g 3), .ref (g 4)] (wL cI g τ) (wL cI g τ) none (some (.int (grL τ k t))) 0 := by
  refine MC.ofG (cc := cL_grams) (maxL := 5) (ret := (some .int)) [(0, .int (nI (k))), (1, .int (nI (t))), (2, .ref (g 3)), (3, .ref (g 4))] (by decide) rfl (Nat.le_of_ble_eq_true rfl) rfl ?_
  intro p e s m args below meth c C hr hout
  refine g_iload_n 1 C rfl dL_grams_0 rfl ?_
  refine g_iconst 3 C dL_grams_1 (by decide) ?_
  refine g_icmp_ge 11 C dL_grams_2 (by decide) (fun c_2_1 => ?_) (fun c_2_1 => ?_)
  ·
    have d_2_1 : 3 ≤ t := (nI_leI (a := 3) (b := t) (by omega) (by omega)).mp c_2_1
    refine g_aload_n 3 C rfl dL_grams_11 rfl ?_
    refine g_iload_n 0 C rfl dL_grams_12 rfl ?_
    refine g_ialdN (cA := cI) (n := 12) (a := g 4) (f := τ.2 4) k 4 0 C rfl rfl (by omega) (by decide) dL_grams_13 ?_
    refine g_istore [(4, .int (τ.2 4 k)), (0, .int (nI (k))), (1, .int (nI (t))), (2, .ref (g 3)), (3, .ref (g 4))] C dL_grams_14 (by decide) rfl ?_
    refine g_iload 0 C rfl dL_grams_16 ?_
    refine g_bipush 10 C dL_grams_18 (by decide) ?_
    refine g_iload_n 2 C rfl dL_grams_20 rfl ?_
    refine g_iconst 3 C dL_grams_21 (by decide) ?_
    refine g_iremN t 3 C (by omega) (by omega) (by omega) dL_grams_22 ?_
    refine g_imulN 10 (t % 3) C dL_grams_23 ?_
    refine g_ishr C dL_grams_24 ?_
    refine g_sipush 1023 C dL_grams_25 (by decide) ?_
    refine g_iand C dL_grams_28 ?_
    exact g_iret C hr rfl dL_grams_29 (Nat.zero_le _) (Nat.zero_le _) rfl (by rw [grL, if_neg (show ¬ t < 3 by omega)]) rfl
  ·
    have d_2_1 : ¬ 3 ≤ t := fun zz => c_2_1 ((nI_leI (a := 3) (b := t) (by omega) (by omega)).mpr zz)
    refine g_aload_n 2 C rfl dL_grams_5 rfl ?_
    refine g_iload_n 0 C rfl dL_grams_6 rfl ?_
    refine g_ialdN (cA := cI) (n := 12) (a := g 3) (f := τ.2 3) k 3 0 C rfl rfl (by omega) (by decide) dL_grams_7 ?_
    refine g_goto 14 C dL_grams_8 (by decide) ?_
    refine g_istore [(4, .int (τ.2 3 k)), (0, .int (nI (k))), (1, .int (nI (t))), (2, .ref (g 3)), (3, .ref (g 4))] C dL_grams_14 (by decide) rfl ?_
    refine g_iload 0 C rfl dL_grams_16 ?_
    refine g_bipush 10 C dL_grams_18 (by decide) ?_
    refine g_iload_n 2 C rfl dL_grams_20 rfl ?_
    refine g_iconst 3 C dL_grams_21 (by decide) ?_
    refine g_iremN t 3 C (by omega) (by omega) (by omega) dL_grams_22 ?_
    refine g_imulN 10 (t % 3) C dL_grams_23 ?_
    refine g_ishr C dL_grams_24 ?_
    refine g_sipush 1023 C dL_grams_25 (by decide) ?_
    refine g_iand C dL_grams_28 ?_
    exact g_iret C hr rfl dL_grams_29 (Nat.zero_le _) (Nat.zero_le _) rfl (by rw [grL, if_pos (show t < 3 by omega)]) rfl
set_option maxRecDepth 100000 in
set_option maxHeartbeats 4000000 in
theorem c_total (l : Launch) (D : va_G) (cI cJ : ClassId) (g : Nat → Nat) (τ : gS) (x : Nat) (hx : x < 4) : MC l yL_total wsL_total 0 0 D (tyIJ cI cJ) [.int (nI (x)), .ref (g 2)] (wL cI g τ) (wL cI g τ) none (some (.int (potL τ x 6))) 0 := by
  refine MC.ofG (cc := cL_total) (maxL := 4) (ret := (some .int)) [(0, .int (nI (x))), (1, .ref (g 2))] (by decide) rfl (Nat.le_of_ble_eq_true rfl) rfl ?_
  intro p e s m args below meth c C hr hout
  refine g_iconst 0 C dL_total_0 (by decide) ?_
  refine g_istore_n [(2, .int (0)), (0, .int (nI (x))), (1, .ref (g 2))] C dL_total_1 rfl (by decide) rfl ?_
  refine g_iconst 0 C dL_total_2 (by decide) ?_
  refine g_istore_n [(3, .int (0)), (2, .int (0)), (0, .int (nI (x))), (1, .ref (g 2))] C dL_total_3 rfl (by decide) rfl ?_
  have loop_4 : ∀ (fu : Nat) (i : Nat), i ≤ 6 → 7 ≤ i + fu → G p l e ({ frames := 0, cells := 0, slots := 6 * 0, locals := 0 } : Room) s m args below meth c D (va_A (wL cI g τ) s.heap.size) 4 0 0 (gQ below D (wL cI g τ) (wL cI g τ) none (some (.int (potL τ x 6))) 0 args s) (wL cI g τ) [(0, .int (nI (x))), (1, .ref (g 2)), (2, .int (potL τ x i)), (3, .int (nI (i)))] 4 [] := by
    intro fu
    induction fu with
    | zero => intro i hi hf; exact absurd True.intro (by omega)
    | succ fu ih_4 =>
      intro i hi hf
      refine g_iload_n 3 C rfl dL_total_4 rfl ?_
      refine g_bipush 6 C dL_total_5 (by decide) ?_
      refine g_icmp_ge 27 C dL_total_7 (by decide) (fun c_7_1 => ?_) (fun c_7_1 => ?_)
      ·
        have d_7_1 : 6 ≤ i := (nI_leI (a := 6) (b := i) (by omega) (by omega)).mp c_7_1
        refine g_iload_n 2 C rfl dL_total_27 rfl ?_
        exact g_iret C hr rfl dL_total_28 (Nat.zero_le _) (Nat.zero_le _) rfl (by rw [show i = 6 by omega]) rfl
      ·
        have d_7_1 : ¬ 6 ≤ i := fun zz => c_7_1 ((nI_leI (a := 6) (b := i) (by omega) (by omega)).mpr zz)
        refine g_iload_n 2 C rfl dL_total_10 rfl ?_
        refine g_aload_n 1 C rfl dL_total_11 rfl ?_
        refine g_bipush 6 C dL_total_12 (by decide) ?_
        refine g_iload_n 0 C rfl dL_total_14 rfl ?_
        refine g_imulN 6 x C dL_total_15 ?_
        refine g_iload_n 3 C rfl dL_total_16 rfl ?_
        refine g_iaddN (6 * x) i C dL_total_17 ?_
        refine g_ialdN (cA := cI) (n := 24) (a := g 2) (f := τ.2 2) ((6 * x) + i) 2 0 C rfl rfl (by omega) (by decide) dL_total_18 ?_
        refine g_iadd C dL_total_19 ?_
        refine g_istore_n [(2, .int ((potL τ x i) + (τ.2 2 ((6 * x) + i)))), (0, .int (nI (x))), (1, .ref (g 2)), (3, .int (nI (i)))] C dL_total_20 rfl (by decide) rfl ?_
        refine g_iincN 3 i 1 [(3, .int (nI (i + 1))), (2, .int ((potL τ x i) + (τ.2 2 ((6 * x) + i)))), (0, .int (nI (x))), (1, .ref (g 2))] C dL_total_21 rfl (by decide) (by decide) rfl ?_
        refine g_goto 4 C dL_total_24 (by decide) ?_
        refine g_lv [2, 3, 1, 0] [(0, .int (nI (x))), (1, .ref (g 2)), (2, .int ((potL τ x i) + (τ.2 2 ((6 * x) + i)))), (3, .int (nI (i + 1)))] rfl ?_
        exact ih_4 (i + 1) (by omega) (by omega)
  refine g_lv [2, 3, 1, 0] [(0, .int (nI (x))), (1, .ref (g 2)), (2, .int (0)), (3, .int (0))] rfl ?_
  exact loop_4 7 0 (by omega) (by omega)
set_option maxRecDepth 100000 in
set_option maxHeartbeats 4000000 in
theorem c_flows (l : Launch) (D : va_G) (cI cJ : ClassId) (g : Nat → Nat) (τ : gS) (x n : Nat) (hx : x < 4) (hn : 1 ≤ n ∧ n ≤ 50) (hp : potOK τ x) (hS : n ≤ potN τ x 6) : MC l yL_flows wsL_flows 1 23 D (tyIJ cI cJ) [.int (nI (x)), .int (nI (n)), .ref (g 2), .ref (g 7)] (wL cI g τ) (wL cI g (sA (sA τ 7 (fillF (τ.2 7) (flN τ x n) 6)) 2 (subF (τ.2 2) (fillF (τ.2 7) (flN τ x n) 6) (6 * x) 6))) none none 0 := by
  have hP6 : potN τ x 6 ≤ 6000 := potN_le hp 6 (Nat.le_refl 6)
  have hP0 : 0 < potN τ x 6 := by omega
  refine MC.ofG (cc := cL_flows) (maxL := 9) (ret := none) [(0, .int (nI (x))), (1, .int (nI (n))), (2, .ref (g 2)), (3, .ref (g 7))] (by decide) rfl (Nat.le_of_ble_eq_true rfl) rfl ?_
  intro p e s m args below meth c C hr hout
  refine g_iload_n 0 C rfl dL_flows_0 rfl ?_
  refine g_aload_n 2 C rfl dL_flows_1 rfl ?_
  refine g_bS (na := 2) (av := [.int (nI (x)), .ref (g 2)]) (c_total l D cI cJ g τ x hx) C gL_flows_L_total rfl (by decide +kernel) rfl ⟨Nat.le_of_ble_eq_true rfl, Nat.le_of_ble_eq_true rfl⟩ rfl (Nat.le_of_ble_eq_true rfl) ⟨Nat.zero_le _, Nat.zero_le _⟩ dL_flows_2 ?_
  refine g_is (nI (potN τ x 6)) (potL_N hp 6 (Nat.le_refl 6)) ?_
  refine g_istore [(4, .int (nI (potN τ x 6))), (0, .int (nI (x))), (1, .int (nI (n))), (2, .ref (g 2)), (3, .ref (g 7))] C dL_flows_5 (by decide) rfl ?_
  refine g_iconst 0 C dL_flows_7 (by decide) ?_
  refine g_istore [(5, .int (0)), (4, .int (nI (potN τ x 6))), (0, .int (nI (x))), (1, .int (nI (n))), (2, .ref (g 2)), (3, .ref (g 7))] C dL_flows_8 (by decide) rfl ?_
  refine g_iconst 0 C dL_flows_10 (by decide) ?_
  refine g_istore [(6, .int (0)), (5, .int (0)), (4, .int (nI (potN τ x 6))), (0, .int (nI (x))), (1, .int (nI (n))), (2, .ref (g 2)), (3, .ref (g 7))] C dL_flows_11 (by decide) rfl ?_
  refine g_iconst 0 C dL_flows_13 (by decide) ?_
  refine g_istore [(7, .int (0)), (6, .int (0)), (5, .int (0)), (4, .int (nI (potN τ x 6))), (0, .int (nI (x))), (1, .int (nI (n))), (2, .ref (g 2)), (3, .ref (g 7))] C dL_flows_14 (by decide) rfl ?_
  have loop_16 : ∀ (fu : Nat) (i : Nat), i ≤ 6 → 7 ≤ i + fu → G p l e ({ frames := 1, cells := 0, slots := 6 * 0, locals := 23 } : Room) s m args below meth c D (va_A (wL cI g τ) s.heap.size) 9 0 0 (gQ below D (wL cI g τ) (wL cI g (sA (sA τ 7 (fillF (τ.2 7) (flN τ x n) 6)) 2 (subF (τ.2 2) (fillF (τ.2 7) (flN τ x n) 6) (6 * x) 6))) none none 0 args s) (wL cI g (sA τ 7 (fillF (τ.2 7) (flN τ x n) i))) [(0, .int (nI (x))), (1, .int (nI (n))), (2, .ref (g 2)), (3, .ref (g 7)), (4, .int (nI (potN τ x 6))), (5, .int (nI (potN τ x i))), (6, .int (nI (flQ τ x n i))), (7, .int (nI (i)))] 16 [] := by
    intro fu
    induction fu with
    | zero => intro i hi hf; exact absurd True.intro (by omega)
    | succ fu ih_16 =>
      intro i hi hf
      refine g_iload 7 C rfl dL_flows_16 ?_
      refine g_bipush 6 C dL_flows_18 (by decide) ?_
      refine g_icmp_ge 86 C dL_flows_20 (by decide) (fun c_20_1 => ?_) (fun c_20_1 => ?_)
      ·
        have d_20_1 : 6 ≤ i := (nI_leI (a := 6) (b := i) (by omega) (by omega)).mp c_20_1
        obtain rfl : i = 6 := by omega
        refine g_iconst 0 C dL_flows_86 (by decide) ?_
        refine g_istore [(7, .int (0)), (0, .int (nI (x))), (1, .int (nI (n))), (2, .ref (g 2)), (3, .ref (g 7)), (4, .int (nI (potN τ x 6))), (5, .int (nI (potN τ x 6))), (6, .int (nI (flQ τ x n 6)))] C dL_flows_87 (by decide) rfl ?_
        have loop_89 : ∀ (fu : Nat) (i2 : Nat), i2 ≤ 6 → 7 ≤ i2 + fu → G p l e ({ frames := 1, cells := 0, slots := 6 * 0, locals := 23 } : Room) s m args below meth c D (va_A (wL cI g τ) s.heap.size) 9 0 0 (gQ below D (wL cI g τ) (wL cI g (sA (sA τ 7 (fillF (τ.2 7) (flN τ x n) 6)) 2 (subF (τ.2 2) (fillF (τ.2 7) (flN τ x n) 6) (6 * x) 6))) none none 0 args s) (wL cI g (sA (sA τ 7 (fillF (τ.2 7) (flN τ x n) 6)) 2 (subF (τ.2 2) (fillF (τ.2 7) (flN τ x n) 6) (6 * x) i2))) [(0, .int (nI (x))), (1, .int (nI (n))), (2, .ref (g 2)), (3, .ref (g 7)), (7, .int (nI (i2)))] 89 [] := by
          intro fu
          induction fu with
          | zero => intro i2 hi2 hf2; exact absurd True.intro (by omega)
          | succ fu ih_89 =>
            intro i2 hi2 hf2
            refine g_iload 4 C rfl dL_flows_89 ?_
            refine g_bipush 6 C dL_flows_91 (by decide) ?_
            refine g_icmp_ge 118 C dL_flows_93 (by decide) (fun c_93_2 => ?_) (fun c_93_2 => ?_)
            ·
              have d_93_2 : 6 ≤ i2 := (nI_leI (a := 6) (b := i2) (by omega) (by omega)).mp c_93_2
              exact g_vret C hr dL_flows_118 (Nat.zero_le _) (Nat.zero_le _) rfl rfl (by rw [show i2 = 6 by omega])
            ·
              have d_93_2 : ¬ 6 ≤ i2 := fun zz => c_93_2 ((nI_leI (a := 6) (b := i2) (by omega) (by omega)).mpr zz)
              refine g_aload_n 2 C rfl dL_flows_96 rfl ?_
              refine g_bipush 6 C dL_flows_97 (by decide) ?_
              refine g_iload_n 0 C rfl dL_flows_99 rfl ?_
              refine g_imulN 6 x C dL_flows_100 ?_
              refine g_iload 4 C rfl dL_flows_101 ?_
              refine g_iaddN (6 * x) i2 C dL_flows_103 ?_
              refine g_dup2 C dL_flows_104 rfl rfl ?_
              refine g_ialdN (cA := cI) (n := 24) (a := g 2) (f := subF (τ.2 2) (fillF (τ.2 7) (flN τ x n) 6) (6 * x) i2) ((6 * x) + i2) 2 0 C rfl rfl (by omega) (by decide) dL_flows_105 ?_
              refine g_aload_n 3 C rfl dL_flows_106 rfl ?_
              refine g_iload 4 C rfl dL_flows_107 ?_
              refine g_ialdN (cA := cI) (n := 6) (a := g 7) (f := fillF (τ.2 7) (flN τ x n) 6) i2 7 0 C rfl rfl (by omega) (by decide) dL_flows_109 ?_
              refine g_isub C dL_flows_110 ?_
              refine g_iastN (cA := cI) (n := 24) (a := g 2) (f := subF (τ.2 2) (fillF (τ.2 7) (flN τ x n) 6) (6 * x) i2) (x := (((subF (τ.2 2) (fillF (τ.2 7) (flN τ x n) 6) (6 * x) i2) ((6 * x) + i2)) - ((fillF (τ.2 7) (flN τ x n) 6) i2))) ((6 * x) + i2) 2 0 (wL cI g (sA (sA τ 7 (fillF (τ.2 7) (flN τ x n) 6)) 2 (upd (subF (τ.2 2) (fillF (τ.2 7) (flN τ x n) 6) (6 * x) i2) ((6 * x) + i2) ((((subF (τ.2 2) (fillF (τ.2 7) (flN τ x n) 6) (6 * x) i2) ((6 * x) + i2)) - ((fillF (τ.2 7) (flN τ x n) 6) i2)))))) C rfl rfl (by omega) (by decide) rfl dL_flows_111 ?_
              refine g_iincN 4 i2 1 [(7, .int (nI (i2 + 1))), (0, .int (nI (x))), (1, .int (nI (n))), (2, .ref (g 2)), (3, .ref (g 7))] C dL_flows_112 rfl (by decide) (by decide) rfl ?_
              refine g_goto 89 C dL_flows_115 (by decide) ?_
              refine g_lv [1, 2, 3, 4, 0] [(0, .int (nI (x))), (1, .int (nI (n))), (2, .ref (g 2)), (3, .ref (g 7)), (7, .int (nI (i2 + 1)))] rfl ?_
              exact ih_89 (i2 + 1) (by omega) (by omega)
        refine g_lv [1, 2, 3, 4, 0] [(0, .int (nI (x))), (1, .int (nI (n))), (2, .ref (g 2)), (3, .ref (g 7)), (7, .int (0))] rfl ?_
        exact loop_89 7 0 (by omega) (by omega)
      ·
        have d_20_1 : ¬ 6 ≤ i := fun zz => c_20_1 ((nI_leI (a := 6) (b := i) (by omega) (by omega)).mpr zz)
        refine g_iload 5 C rfl dL_flows_23 ?_
        refine g_aload_n 2 C rfl dL_flows_25 rfl ?_
        refine g_bipush 6 C dL_flows_26 (by decide) ?_
        refine g_iload_n 0 C rfl dL_flows_28 rfl ?_
        refine g_imulN 6 x C dL_flows_29 ?_
        refine g_iload 7 C rfl dL_flows_30 ?_
        refine g_iaddN (6 * x) i C dL_flows_32 ?_
        refine g_ialdN (cA := cI) (n := 24) (a := g 2) (f := τ.2 2) ((6 * x) + i) 2 0 C rfl rfl (by omega) (by decide) dL_flows_33 ?_
        obtain ⟨a9, ha9, ea9⟩ := hp i (by omega)
        refine g_is (nI (a9)) ea9 ?_
        refine g_iaddN (potN τ x i) a9 C dL_flows_34 ?_
        refine g_is (nI (potN τ x (i + 1))) (by show nI (potN τ x i + a9) = nI (potN τ x i + cl (τ.2 2 (6 * x + i))); rw [ea9, cl_nI (by omega)]) ?_
        refine g_istore [(5, .int (nI (potN τ x (i + 1)))), (0, .int (nI (x))), (1, .int (nI (n))), (2, .ref (g 2)), (3, .ref (g 7)), (4, .int (nI (potN τ x 6))), (6, .int (nI (flQ τ x n i))), (7, .int (nI (i)))] C dL_flows_35 (by decide) rfl ?_
        have hle : flQ τ x n (i + 1) ≤ n := flQ_le (by omega) hP0
        have hup : flQ τ x n i ≤ flQ τ x n (i + 1) := flQ_up
        have hb2 : potN τ x (i + 1) * n < 2 ^ 31 := mul_lt31 (A := 6000) (B := 50) (Nat.le_trans (potN_up (i + 1) 6 (by omega)) hP6) hn.2 (by decide)
        refine g_iload 6 C rfl dL_flows_37 ?_
        refine g_istore [(8, .int (nI (flQ τ x n i))), (5, .int (nI (potN τ x (i + 1)))), (0, .int (nI (x))), (1, .int (nI (n))), (2, .ref (g 2)), (3, .ref (g 7)), (4, .int (nI (potN τ x 6))), (6, .int (nI (flQ τ x n i))), (7, .int (nI (i)))] C dL_flows_39 (by decide) rfl ?_
        have loop_41 : ∀ (fu : Nat) (j2 : Nat), j2 ≤ flQ τ x n (i + 1) → n + 1 ≤ j2 + fu → G p l e ({ frames := 1, cells := 0, slots := 6 * 0, locals := 23 } : Room) s m args below meth c D (va_A (wL cI g τ) s.heap.size) 9 0 0 (gQ below D (wL cI g τ) (wL cI g (sA (sA τ 7 (fillF (τ.2 7) (flN τ x n) 6)) 2 (subF (τ.2 2) (fillF (τ.2 7) (flN τ x n) 6) (6 * x) 6))) none none 0 args s) (wL cI g (sA τ 7 (fillF (τ.2 7) (flN τ x n) i))) [(0, .int (nI (x))), (1, .int (nI (n))), (2, .ref (g 2)), (3, .ref (g 7)), (4, .int (nI (potN τ x 6))), (5, .int (nI (potN τ x (i + 1)))), (6, .int (nI (flQ τ x n i))), (7, .int (nI (i))), (8, .int (nI (j2)))] 41 [] := by
          intro fu
          induction fu with
          | zero => intro j2 hj hf2; exact absurd True.intro (by omega)
          | succ fu ih_41 =>
            intro j2 hj hf2
            refine g_iload 8 C rfl dL_flows_41 ?_
            refine g_iload_n 1 C rfl dL_flows_43 rfl ?_
            refine g_icmp_ge 67 C dL_flows_44 (by decide) (fun c_44_3 => ?_) (fun c_44_3 => ?_)
            ·
              have d_44_3 : n ≤ j2 := (nI_leI (a := n) (b := j2) (by omega) (by omega)).mp c_44_3
              have hq2 : j2 = flQ τ x n (i + 1) := by omega
              subst hq2
              refine g_aload_n 3 C rfl dL_flows_67 rfl ?_
              refine g_iload 7 C rfl dL_flows_68 ?_
              refine g_iload 8 C rfl dL_flows_70 ?_
              refine g_iload 6 C rfl dL_flows_72 ?_
              refine g_isubN ((flQ τ x n (i + 1))) (flQ τ x n i) C (by omega) dL_flows_74 ?_
              refine g_is ((flN τ x n i)) rfl ?_
              refine g_iastN (cA := cI) (n := 6) (a := g 7) (f := fillF (τ.2 7) (flN τ x n) i) (x := (flN τ x n i)) i 7 0 (wL cI g (sA τ 7 (upd (fillF (τ.2 7) (flN τ x n) i) i ((flN τ x n i))))) C rfl rfl (by omega) (by decide) rfl dL_flows_75 ?_
              refine g_iload 8 C rfl dL_flows_76 ?_
              refine g_istore [(6, .int (nI ((flQ τ x n (i + 1))))), (0, .int (nI (x))), (1, .int (nI (n))), (2, .ref (g 2)), (3, .ref (g 7)), (4, .int (nI (potN τ x 6))), (5, .int (nI (potN τ x (i + 1)))), (7, .int (nI (i))), (8, .int (nI ((flQ τ x n (i + 1)))))] C dL_flows_78 (by decide) rfl ?_
              refine g_iincN 7 i 1 [(7, .int (nI (i + 1))), (6, .int (nI ((flQ τ x n (i + 1))))), (0, .int (nI (x))), (1, .int (nI (n))), (2, .ref (g 2)), (3, .ref (g 7)), (4, .int (nI (potN τ x 6))), (5, .int (nI (potN τ x (i + 1)))), (8, .int (nI ((flQ τ x n (i + 1)))))] C dL_flows_80 rfl (by decide) (by decide) rfl ?_
              refine g_goto 16 C dL_flows_83 (by decide) ?_
              refine g_lv [2, 3, 4, 5, 6, 7, 1, 0] [(0, .int (nI (x))), (1, .int (nI (n))), (2, .ref (g 2)), (3, .ref (g 7)), (4, .int (nI (potN τ x 6))), (5, .int (nI (potN τ x (i + 1)))), (6, .int (nI ((flQ τ x n (i + 1))))), (7, .int (nI (i + 1)))] rfl ?_
              exact ih_16 (i + 1) (by omega) (by omega)
            ·
              have d_44_3 : ¬ n ≤ j2 := fun zz => c_44_3 ((nI_leI (a := n) (b := j2) (by omega) (by omega)).mpr zz)
              have hb1 : (j2 + 1) * potN τ x 6 < 2 ^ 31 := mul_lt31 (A := 51) (B := 6000) (by omega) hP6 (by decide)
              refine g_iload 8 C rfl dL_flows_47 ?_
              refine g_iconst 1 C dL_flows_49 (by decide) ?_
              refine g_iaddN j2 1 C dL_flows_50 ?_
              refine g_iload 4 C rfl dL_flows_51 ?_
              refine g_imulN (j2 + 1) (potN τ x 6) C dL_flows_53 ?_
              refine g_iload 5 C rfl dL_flows_54 ?_
              refine g_iload_n 1 C rfl dL_flows_56 rfl ?_
              refine g_imulN (potN τ x (i + 1)) n C dL_flows_57 ?_
              refine g_icmp_gt 67 C dL_flows_58 (by decide) (fun c_58_4 => ?_) (fun c_58_4 => ?_)
              ·
                have d_58_4 : ((potN τ x (i + 1)) * n) < ((j2 + 1) * (potN τ x 6)) := (nI_ltI (a := ((potN τ x (i + 1)) * n)) (b := ((j2 + 1) * (potN τ x 6))) (by omega) (by omega)).mp c_58_4
                have hq2 : j2 = flQ τ x n (i + 1) := Nat.le_antisymm hj (flQ_out hP0 (Nat.not_le_of_lt d_58_4))
                subst hq2
                refine g_aload_n 3 C rfl dL_flows_67 rfl ?_
                refine g_iload 7 C rfl dL_flows_68 ?_
                refine g_iload 8 C rfl dL_flows_70 ?_
                refine g_iload 6 C rfl dL_flows_72 ?_
                refine g_isubN ((flQ τ x n (i + 1))) (flQ τ x n i) C (by omega) dL_flows_74 ?_
                refine g_is ((flN τ x n i)) rfl ?_
                refine g_iastN (cA := cI) (n := 6) (a := g 7) (f := fillF (τ.2 7) (flN τ x n) i) (x := (flN τ x n i)) i 7 0 (wL cI g (sA τ 7 (upd (fillF (τ.2 7) (flN τ x n) i) i ((flN τ x n i))))) C rfl rfl (by omega) (by decide) rfl dL_flows_75 ?_
                refine g_iload 8 C rfl dL_flows_76 ?_
                refine g_istore [(6, .int (nI ((flQ τ x n (i + 1))))), (0, .int (nI (x))), (1, .int (nI (n))), (2, .ref (g 2)), (3, .ref (g 7)), (4, .int (nI (potN τ x 6))), (5, .int (nI (potN τ x (i + 1)))), (7, .int (nI (i))), (8, .int (nI ((flQ τ x n (i + 1)))))] C dL_flows_78 (by decide) rfl ?_
                refine g_iincN 7 i 1 [(7, .int (nI (i + 1))), (6, .int (nI ((flQ τ x n (i + 1))))), (0, .int (nI (x))), (1, .int (nI (n))), (2, .ref (g 2)), (3, .ref (g 7)), (4, .int (nI (potN τ x 6))), (5, .int (nI (potN τ x (i + 1)))), (8, .int (nI ((flQ τ x n (i + 1)))))] C dL_flows_80 rfl (by decide) (by decide) rfl ?_
                refine g_goto 16 C dL_flows_83 (by decide) ?_
                refine g_lv [2, 3, 4, 5, 6, 7, 1, 0] [(0, .int (nI (x))), (1, .int (nI (n))), (2, .ref (g 2)), (3, .ref (g 7)), (4, .int (nI (potN τ x 6))), (5, .int (nI (potN τ x (i + 1)))), (6, .int (nI ((flQ τ x n (i + 1))))), (7, .int (nI (i + 1)))] rfl ?_
                exact ih_16 (i + 1) (by omega) (by omega)
              ·
                have d_58_4 : ¬ ((potN τ x (i + 1)) * n) < ((j2 + 1) * (potN τ x 6)) := fun zz => c_58_4 ((nI_ltI (a := ((potN τ x (i + 1)) * n)) (b := ((j2 + 1) * (potN τ x 6))) (by omega) (by omega)).mpr zz)
                have hq1 : j2 + 1 ≤ flQ τ x n (i + 1) := flQ_in hP0 (Nat.le_of_not_lt d_58_4)
                refine g_iincN 8 j2 1 [(8, .int (nI (j2 + 1))), (0, .int (nI (x))), (1, .int (nI (n))), (2, .ref (g 2)), (3, .ref (g 7)), (4, .int (nI (potN τ x 6))), (5, .int (nI (potN τ x (i + 1)))), (6, .int (nI (flQ τ x n i))), (7, .int (nI (i)))] C dL_flows_61 rfl (by decide) (by decide) rfl ?_
                refine g_goto 41 C dL_flows_64 (by decide) ?_
                refine g_lv [1, 2, 3, 4, 5, 6, 7, 8, 0] [(0, .int (nI (x))), (1, .int (nI (n))), (2, .ref (g 2)), (3, .ref (g 7)), (4, .int (nI (potN τ x 6))), (5, .int (nI (potN τ x (i + 1)))), (6, .int (nI (flQ τ x n i))), (7, .int (nI (i))), (8, .int (nI (j2 + 1)))] rfl ?_
                exact ih_41 (j2 + 1) hq1 (by omega)
        refine g_lv [2, 3, 4, 5, 6, 1, 7, 8, 0] [(0, .int (nI (x))), (1, .int (nI (n))), (2, .ref (g 2)), (3, .ref (g 7)), (4, .int (nI (potN τ x 6))), (5, .int (nI (potN τ x (i + 1)))), (6, .int (nI (flQ τ x n i))), (7, .int (nI (i))), (8, .int (nI (flQ τ x n i)))] rfl ?_
        exact loop_41 (n + 1) (flQ τ x n i) flQ_up (by omega)
  refine g_lv [4, 5, 6, 7, 3, 2, 1, 0] [(0, .int (nI (x))), (1, .int (nI (n))), (2, .ref (g 2)), (3, .ref (g 7)), (4, .int (nI (potN τ x 6))), (5, .int (0)), (6, .int (0)), (7, .int (0))] rfl ?_
  have hq0 : flQ τ x n 0 = 0 := by rw [flQ, potN, Nat.zero_mul, Nat.zero_div]
  have hl0 := loop_16 7 0 (by omega) (by omega)
  rw [hq0] at hl0
  exact hl0
