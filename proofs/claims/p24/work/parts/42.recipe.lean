/-! The law's recipe. -/
theorem col_eq {σ τ : gS} (hC : ∀ i, i < 12 → τ.2 0 i = σ.2 0 i) {t j ch : Nat} (ej : σ.2 1 t = nI j) (hj : j < 4) (hc : ch < 3) : τ.2 0 (3 * j + ch) = colT σ t ch := by
  rw [hC _ (by omega), colT, ej, cl_nI (by omega), Nat.mul_comm]
set_option maxRecDepth 100000 in
set_option maxHeartbeats 4000000 in
theorem c_lrecipe (l : Launch) (D : va_G) (cI cJ : ClassId) (g : Nat → Nat) (σ τ : gS) (x y z : Int32) (hC : ∀ i, i < 12 → τ.2 0 i = σ.2 0 i) (hT1 : ∀ t, t < 6 → τ.2 1 (3 * t) = σ.2 1 t) (hT2 : ∀ t, t < 6 → τ.2 1 (3 * t + 1) = σ.2 2 t) (hTP : ∀ t, t < 6 → ∃ j, j < 4 ∧ σ.2 1 t = nI j) (hG : ∀ t, t < 6 → 0 ≤ (σ.2 2 t).toInt) : MC l yL_recipe wsL_recipe 0 0 D (tyIJ cI cJ) [.int (x), .int (y), .int (z), .ref (g 0), .ref (g 1)] (wL cI g τ) (wL cI g τ) none (some (.int ((rA σ x y z 6 6).1))) 0 := by
  rw [rA_DA]
  refine MC.ofG (cc := cL_recipe) (maxL := 16) (ret := (some .int)) [(0, .int (x)), (1, .int (y)), (2, .int (z)), (3, .ref (g 0)), (4, .ref (g 1))] (by decide) rfl (Nat.le_of_ble_eq_true rfl) rfl ?_
  intro p e s m args below meth c C hr hout
  refine g_iconst (-1) C dL_recipe_0 (by decide) ?_
  refine g_istore [(5, .int ((-1))), (0, .int (x)), (1, .int (y)), (2, .int (z)), (3, .ref (g 0)), (4, .ref (g 1))] C dL_recipe_1 (by decide) rfl ?_
  refine g_ldc 2147483647 C (by decide +kernel) dL_recipe_3 ?_
  refine g_istore [(6, .int (2147483647)), (5, .int ((-1))), (0, .int (x)), (1, .int (y)), (2, .int (z)), (3, .ref (g 0)), (4, .ref (g 1))] C dL_recipe_5 (by decide) rfl ?_
  refine g_iconst 5 C dL_recipe_7 (by decide) ?_
  refine g_istore [(7, .int (5)), (6, .int (2147483647)), (5, .int ((-1))), (0, .int (x)), (1, .int (y)), (2, .int (z)), (3, .ref (g 0)), (4, .ref (g 1))] C dL_recipe_8 (by decide) rfl ?_
  have loop_10 : ∀ (fu : Nat) (a : Nat), a ≤ 6 → a < fu → G p l e ({ frames := 0, cells := 0, slots := 6 * 0, locals := 0 } : Room) s m args below meth c D (va_A (wL cI g τ) s.heap.size) 16 0 0 (gQ below D (wL cI g τ) (wL cI g τ) none (some (.int ((DA σ x y z 0).1))) 0 args s) (wL cI g τ) [(0, .int (x)), (1, .int (y)), (2, .int (z)), (3, .ref (g 0)), (4, .ref (g 1)), (5, .int ((DA σ x y z a).1)), (6, .int ((DA σ x y z a).2)), (7, .int (nI a - 1))] 10 [] := by
    intro fu
    induction fu with
    | zero => intro a ha hf; exact absurd True.intro (by omega)
    | succ fu ih_10 =>
      intro a ha hf
      refine g_iload 7 C rfl dL_recipe_10 ?_
      refine g_if_lt 221 C dL_recipe_12 (by decide) (fun c_12_1 => ?_) (fun c_12_1 => ?_)
      ·
        obtain rfl := pd_0 (by omega) c_12_1
        refine g_iload 5 C rfl dL_recipe_221 ?_
        exact g_iret C hr rfl dL_recipe_223 (Nat.zero_le _) (Nat.zero_le _) rfl rfl rfl
      ·
        obtain ⟨a1, rfl⟩ := pd_1 c_12_1
        rw [nI_pred a1]
        refine g_iconst 5 C dL_recipe_15 (by decide) ?_
        refine g_istore [(8, .int (5)), (0, .int (x)), (1, .int (y)), (2, .int (z)), (3, .ref (g 0)), (4, .ref (g 1)), (5, .int ((DA σ x y z (a1 + 1)).1)), (6, .int ((DA σ x y z (a1 + 1)).2)), (7, .int (nI (a1)))] C dL_recipe_16 (by decide) rfl ?_
        have loop_18 : ∀ (fu : Nat) (b : Nat), b ≤ 6 → a1 ≤ b → b < fu → G p l e ({ frames := 0, cells := 0, slots := 6 * 0, locals := 0 } : Room) s m args below meth c D (va_A (wL cI g τ) s.heap.size) 16 0 0 (gQ below D (wL cI g τ) (wL cI g τ) none (some (.int ((DA σ x y z 0).1))) 0 args s) (wL cI g τ) [(0, .int (x)), (1, .int (y)), (2, .int (z)), (3, .ref (g 0)), (4, .ref (g 1)), (5, .int ((DB σ x y z a1 b).1)), (6, .int ((DB σ x y z a1 b).2)), (7, .int (nI (a1))), (8, .int (nI b - 1))] 18 [] := by
          intro fu
          induction fu with
          | zero => intro b hb hab hfb; exact absurd True.intro (by omega)
          | succ fu ih_18 =>
            intro b hb hab hfb
            refine g_iload 8 C rfl dL_recipe_18 ?_
            refine g_iload 7 C rfl dL_recipe_20 ?_
            refine g_icmp_lt 215 C dL_recipe_22 (by decide) (fun c_22_2 => ?_) (fun c_22_2 => ?_)
            ·
              obtain rfl : a1 = b := Nat.le_antisymm hab (pd_lt (by omega) (by omega) c_22_2)
              refine g_iinc 7 (nI (a1) - 1) [(7, .int (nI (a1) - 1)), (0, .int (x)), (1, .int (y)), (2, .int (z)), (3, .ref (g 0)), (4, .ref (g 1)), (5, .int ((DB σ x y z a1 a1).1)), (6, .int ((DB σ x y z a1 a1).2)), (8, .int (nI a1 - 1))] C dL_recipe_215 rfl (i32_dec _) (by decide) rfl ?_
              refine g_goto 10 C dL_recipe_218 (by decide) ?_
              refine g_lv [1, 2, 3, 4, 5, 6, 7, 0] [(0, .int (x)), (1, .int (y)), (2, .int (z)), (3, .ref (g 0)), (4, .ref (g 1)), (5, .int ((DB σ x y z a1 a1).1)), (6, .int ((DB σ x y z a1 a1).2)), (7, .int (nI (a1) - 1))] rfl ?_
              have hx := ih_10 a1 (by omega) (by omega)
              rw [← DB_a (a := a1) (by omega)] at hx
              exact hx
            ·
              obtain ⟨b1, rfl, hab1⟩ := pd_ge (by omega) (by omega) c_22_2
              rw [nI_pred b1]
              refine g_iconst 4 C dL_recipe_25 (by decide) ?_
              refine g_istore [(9, .int (4)), (0, .int (x)), (1, .int (y)), (2, .int (z)), (3, .ref (g 0)), (4, .ref (g 1)), (5, .int ((DB σ x y z a1 (b1 + 1)).1)), (6, .int ((DB σ x y z a1 (b1 + 1)).2)), (7, .int (nI (a1))), (8, .int (nI (b1)))] C dL_recipe_26 (by decide) rfl ?_
              have loop_28 : ∀ (fu : Nat) (n : Nat), n ≤ 5 → n < fu → G p l e ({ frames := 0, cells := 0, slots := 6 * 0, locals := 0 } : Room) s m args below meth c D (va_A (wL cI g τ) s.heap.size) 16 0 0 (gQ below D (wL cI g τ) (wL cI g τ) none (some (.int ((DA σ x y z 0).1))) 0 args s) (wL cI g τ) [(0, .int (x)), (1, .int (y)), (2, .int (z)), (3, .ref (g 0)), (4, .ref (g 1)), (5, .int ((DQ σ x y z a1 b1 n).1)), (6, .int ((DQ σ x y z a1 b1 n).2)), (7, .int (nI (a1))), (8, .int (nI (b1))), (9, .int (nI n - 1))] 28 [] := by
                intro fu
                induction fu with
                | zero => intro n hn hfn; exact absurd True.intro (by omega)
                | succ fu ih_28 =>
                  intro n hn hfn
                  refine g_iload 9 C rfl dL_recipe_28 ?_
                  refine g_if_lt 209 C dL_recipe_30 (by decide) (fun c_30_3 => ?_) (fun c_30_3 => ?_)
                  ·
                    obtain rfl := pd_0 (by omega) c_30_3
                    refine g_iinc 8 (nI (b1) - 1) [(8, .int (nI (b1) - 1)), (0, .int (x)), (1, .int (y)), (2, .int (z)), (3, .ref (g 0)), (4, .ref (g 1)), (5, .int ((DQ σ x y z a1 b1 0).1)), (6, .int ((DQ σ x y z a1 b1 0).2)), (7, .int (nI (a1))), (9, .int (nI 0 - 1))] C dL_recipe_209 rfl (i32_dec _) (by decide) rfl ?_
                    refine g_goto 18 C dL_recipe_212 (by decide) ?_
                    refine g_lv [1, 2, 3, 4, 5, 6, 7, 8, 0] [(0, .int (x)), (1, .int (y)), (2, .int (z)), (3, .ref (g 0)), (4, .ref (g 1)), (5, .int ((DQ σ x y z a1 b1 0).1)), (6, .int ((DQ σ x y z a1 b1 0).2)), (7, .int (nI (a1))), (8, .int (nI (b1) - 1))] rfl ?_
                    have hx := ih_18 b1 (by omega) (by omega) (by omega)
                    rw [← DQ_0 (a := a1) (b := b1) (by omega)] at hx
                    exact hx
                  ·
                    obtain ⟨n1, rfl⟩ := pd_1 c_30_3
                    rw [nI_pred n1]
                    refine g_iconst 3 C dL_recipe_33 (by decide) ?_
                    refine g_aload 4 C rfl dL_recipe_34 ?_
                    refine g_iconst 3 C dL_recipe_36 (by decide) ?_
                    refine g_iload 7 C rfl dL_recipe_37 ?_
                    refine g_imulN 3 a1 C dL_recipe_39 ?_
                    refine g_ialdN (cA := cI) (n := 18) (a := g 1) (f := τ.2 1) (3 * a1) 1 0 C rfl rfl (by omega) (by decide) dL_recipe_40 ?_
                    obtain ⟨ja, ha1j, ea⟩ := hTP a1 (by omega)
                    have eja1 : σ.2 1 a1 = nI ja := ea
                    refine g_is (nI (ja)) ((hT1 a1 (by omega)).trans ea) ?_
                    refine g_imulN 3 ja C dL_recipe_41 ?_
                    refine g_istore [(10, .int (nI (3 * ja))), (0, .int (x)), (1, .int (y)), (2, .int (z)), (3, .ref (g 0)), (4, .ref (g 1)), (5, .int ((DQ σ x y z a1 b1 (n1 + 1)).1)), (6, .int ((DQ σ x y z a1 b1 (n1 + 1)).2)), (7, .int (nI (a1))), (8, .int (nI (b1))), (9, .int (nI (n1)))] C dL_recipe_42 (by decide) rfl ?_
                    refine g_iconst 3 C dL_recipe_44 (by decide) ?_
                    refine g_aload 5 C rfl dL_recipe_45 ?_
                    refine g_iconst 3 C dL_recipe_47 (by decide) ?_
                    refine g_iload 9 C rfl dL_recipe_48 ?_
                    refine g_imulN 3 b1 C dL_recipe_50 ?_
                    refine g_ialdN (cA := cI) (n := 18) (a := g 1) (f := τ.2 1) (3 * b1) 1 0 C rfl rfl (by omega) (by decide) dL_recipe_51 ?_
                    obtain ⟨jb, hb1j, eb⟩ := hTP b1 (by omega)
                    have ejb1 : σ.2 1 b1 = nI jb := eb
                    refine g_is (nI (jb)) ((hT1 b1 (by omega)).trans eb) ?_
                    refine g_imulN 3 jb C dL_recipe_52 ?_
                    refine g_istore [(11, .int (nI (3 * jb))), (10, .int (nI (3 * ja))), (0, .int (x)), (1, .int (y)), (2, .int (z)), (3, .ref (g 0)), (4, .ref (g 1)), (5, .int ((DQ σ x y z a1 b1 (n1 + 1)).1)), (6, .int ((DQ σ x y z a1 b1 (n1 + 1)).2)), (7, .int (nI (a1))), (8, .int (nI (b1))), (9, .int (nI (n1)))] C dL_recipe_53 (by decide) rfl ?_
                    refine g_iload 11 C rfl dL_recipe_55 ?_
                    refine g_aload_n 5 C rfl dL_recipe_57 rfl ?_
                    refine g_iload 1 C rfl dL_recipe_58 ?_
                    refine g_ialdN (cA := cI) (n := 12) (a := g 0) (f := τ.2 0) (3 * ja) 0 0 C rfl rfl (by omega) (by decide) dL_recipe_60 ?_
                    refine g_is ((colT σ a1 0)) (col_eq (ch := 0) hC eja1 ha1j (by omega)) ?_
                    refine g_imul C dL_recipe_61 ?_
                    refine g_iconst 4 C dL_recipe_62 (by decide) ?_
                    refine g_iload 11 C rfl dL_recipe_63 ?_
                    refine g_isub C dL_recipe_65 ?_
                    refine g_aload_n 5 C rfl dL_recipe_66 rfl ?_
                    refine g_iload 0 C rfl dL_recipe_67 ?_
                    refine g_ialdN (cA := cI) (n := 12) (a := g 0) (f := τ.2 0) (3 * jb) 0 0 C rfl rfl (by omega) (by decide) dL_recipe_69 ?_
                    refine g_is ((colT σ b1 0)) (col_eq (ch := 0) hC ejb1 hb1j (by omega)) ?_
                    refine g_imul C dL_recipe_70 ?_
                    refine g_iadd C dL_recipe_71 ?_
                    refine g_iconst 4 C dL_recipe_72 (by decide) ?_
                    refine g_idiv C (by decide) dL_recipe_73 ?_
                    refine g_iload_n 2 C rfl dL_recipe_74 rfl ?_
                    refine g_isub C dL_recipe_75 ?_
                    refine g_is ((mixd σ a1 b1 (nI n1) 0 - x)) rfl ?_
                    refine g_istore [(12, .int (mixd σ a1 b1 (nI n1) 0 - x)), (11, .int (nI (3 * jb))), (10, .int (nI (3 * ja))), (0, .int (x)), (1, .int (y)), (2, .int (z)), (3, .ref (g 0)), (4, .ref (g 1)), (5, .int ((DQ σ x y z a1 b1 (n1 + 1)).1)), (6, .int ((DQ σ x y z a1 b1 (n1 + 1)).2)), (7, .int (nI (a1))), (8, .int (nI (b1))), (9, .int (nI (n1)))] C dL_recipe_76 (by decide) rfl ?_
                    refine g_iload 12 C rfl dL_recipe_78 ?_
                    refine g_aload_n 6 C rfl dL_recipe_80 rfl ?_
                    refine g_iload 2 C rfl dL_recipe_81 ?_
                    refine g_iconst 1 C dL_recipe_83 (by decide) ?_
                    refine g_iaddN (3 * ja) 1 C dL_recipe_84 ?_
                    refine g_ialdN (cA := cI) (n := 12) (a := g 0) (f := τ.2 0) ((3 * ja) + 1) 0 0 C rfl rfl (by omega) (by decide) dL_recipe_85 ?_
                    refine g_is ((colT σ a1 1)) (col_eq (ch := 1) hC eja1 ha1j (by omega)) ?_
                    refine g_imul C dL_recipe_86 ?_
                    refine g_iconst 4 C dL_recipe_87 (by decide) ?_
                    refine g_iload 12 C rfl dL_recipe_88 ?_
                    refine g_isub C dL_recipe_90 ?_
                    refine g_aload_n 6 C rfl dL_recipe_91 rfl ?_
                    refine g_iload 1 C rfl dL_recipe_92 ?_
                    refine g_iconst 1 C dL_recipe_94 (by decide) ?_
                    refine g_iaddN (3 * jb) 1 C dL_recipe_95 ?_
                    refine g_ialdN (cA := cI) (n := 12) (a := g 0) (f := τ.2 0) ((3 * jb) + 1) 0 0 C rfl rfl (by omega) (by decide) dL_recipe_96 ?_
                    refine g_is ((colT σ b1 1)) (col_eq (ch := 1) hC ejb1 hb1j (by omega)) ?_
                    refine g_imul C dL_recipe_97 ?_
                    refine g_iadd C dL_recipe_98 ?_
                    refine g_iconst 4 C dL_recipe_99 (by decide) ?_
                    refine g_idiv C (by decide) dL_recipe_100 ?_
                    refine g_iload_n 4 C rfl dL_recipe_101 rfl ?_
                    refine g_isub C dL_recipe_102 ?_
                    refine g_is ((mixd σ a1 b1 (nI n1) 1 - y)) rfl ?_
                    refine g_istore [(13, .int (mixd σ a1 b1 (nI n1) 1 - y)), (12, .int (mixd σ a1 b1 (nI n1) 0 - x)), (11, .int (nI (3 * jb))), (10, .int (nI (3 * ja))), (0, .int (x)), (1, .int (y)), (2, .int (z)), (3, .ref (g 0)), (4, .ref (g 1)), (5, .int ((DQ σ x y z a1 b1 (n1 + 1)).1)), (6, .int ((DQ σ x y z a1 b1 (n1 + 1)).2)), (7, .int (nI (a1))), (8, .int (nI (b1))), (9, .int (nI (n1)))] C dL_recipe_103 (by decide) rfl ?_
                    refine g_iload 13 C rfl dL_recipe_105 ?_
                    refine g_aload_n 7 C rfl dL_recipe_107 rfl ?_
                    refine g_iload 3 C rfl dL_recipe_108 ?_
                    refine g_iconst 2 C dL_recipe_110 (by decide) ?_
                    refine g_iaddN (3 * ja) 2 C dL_recipe_111 ?_
                    refine g_ialdN (cA := cI) (n := 12) (a := g 0) (f := τ.2 0) ((3 * ja) + 2) 0 0 C rfl rfl (by omega) (by decide) dL_recipe_112 ?_
                    refine g_is ((colT σ a1 2)) (col_eq (ch := 2) hC eja1 ha1j (by omega)) ?_
                    refine g_imul C dL_recipe_113 ?_
                    refine g_iconst 4 C dL_recipe_114 (by decide) ?_
                    refine g_iload 13 C rfl dL_recipe_115 ?_
                    refine g_isub C dL_recipe_117 ?_
                    refine g_aload_n 7 C rfl dL_recipe_118 rfl ?_
                    refine g_iload 2 C rfl dL_recipe_119 ?_
                    refine g_iconst 2 C dL_recipe_121 (by decide) ?_
                    refine g_iaddN (3 * jb) 2 C dL_recipe_122 ?_
                    refine g_ialdN (cA := cI) (n := 12) (a := g 0) (f := τ.2 0) ((3 * jb) + 2) 0 0 C rfl rfl (by omega) (by decide) dL_recipe_123 ?_
                    refine g_is ((colT σ b1 2)) (col_eq (ch := 2) hC ejb1 hb1j (by omega)) ?_
                    refine g_imul C dL_recipe_124 ?_
                    refine g_iadd C dL_recipe_125 ?_
                    refine g_iconst 4 C dL_recipe_126 (by decide) ?_
                    refine g_idiv C (by decide) dL_recipe_127 ?_
                    refine g_iload_n 6 C rfl dL_recipe_128 rfl ?_
                    refine g_isub C dL_recipe_129 ?_
                    refine g_is ((mixd σ a1 b1 (nI n1) 2 - z)) rfl ?_
                    refine g_istore [(14, .int (mixd σ a1 b1 (nI n1) 2 - z)), (13, .int (mixd σ a1 b1 (nI n1) 1 - y)), (12, .int (mixd σ a1 b1 (nI n1) 0 - x)), (11, .int (nI (3 * jb))), (10, .int (nI (3 * ja))), (0, .int (x)), (1, .int (y)), (2, .int (z)), (3, .ref (g 0)), (4, .ref (g 1)), (5, .int ((DQ σ x y z a1 b1 (n1 + 1)).1)), (6, .int ((DQ σ x y z a1 b1 (n1 + 1)).2)), (7, .int (nI (a1))), (8, .int (nI (b1))), (9, .int (nI (n1)))] C dL_recipe_130 (by decide) rfl ?_
                    refine g_iload 2 C rfl dL_recipe_132 ?_
                    refine g_iload 2 C rfl dL_recipe_134 ?_
                    refine g_imul C dL_recipe_136 ?_
                    refine g_iload 1 C rfl dL_recipe_137 ?_
                    refine g_iload 1 C rfl dL_recipe_139 ?_
                    refine g_imul C dL_recipe_141 ?_
                    refine g_iadd C dL_recipe_142 ?_
                    refine g_iload 0 C rfl dL_recipe_143 ?_
                    refine g_iload 0 C rfl dL_recipe_145 ?_
                    refine g_imul C dL_recipe_147 ?_
                    refine g_iadd C dL_recipe_148 ?_
                    refine g_is ((rdist σ a1 b1 n1 x y z)) rfl ?_
                    refine g_istore [(15, .int (rdist σ a1 b1 n1 x y z)), (14, .int (mixd σ a1 b1 (nI n1) 2 - z)), (13, .int (mixd σ a1 b1 (nI n1) 1 - y)), (12, .int (mixd σ a1 b1 (nI n1) 0 - x)), (11, .int (nI (3 * jb))), (10, .int (nI (3 * ja))), (0, .int (x)), (1, .int (y)), (2, .int (z)), (3, .ref (g 0)), (4, .ref (g 1)), (5, .int ((DQ σ x y z a1 b1 (n1 + 1)).1)), (6, .int ((DQ σ x y z a1 b1 (n1 + 1)).2)), (7, .int (nI (a1))), (8, .int (nI (b1))), (9, .int (nI (n1)))] C dL_recipe_149 (by decide) rfl ?_
                    refine g_aload 10 C rfl dL_recipe_151 ?_
                    refine g_iconst 3 C dL_recipe_153 (by decide) ?_
                    refine g_iload 13 C rfl dL_recipe_154 ?_
                    refine g_imulN 3 a1 C dL_recipe_156 ?_
                    refine g_iconst 1 C dL_recipe_157 (by decide) ?_
                    refine g_iaddN (3 * a1) 1 C dL_recipe_158 ?_
                    refine g_ialdN (cA := cI) (n := 18) (a := g 1) (f := τ.2 1) ((3 * a1) + 1) 1 0 C rfl rfl (by omega) (by decide) dL_recipe_159 ?_
                    refine g_is ((σ.2 2 a1)) (hT2 a1 (by omega)) ?_
                    refine g_if_le 203 C dL_recipe_160 (by decide) (fun c_160_4 => ?_) (fun c_160_4 => ?_)
                    ·
                      refine g_iinc 15 (nI (n1) - 1) [(9, .int (nI (n1) - 1)), (15, .int (rdist σ a1 b1 n1 x y z)), (14, .int (mixd σ a1 b1 (nI n1) 2 - z)), (13, .int (mixd σ a1 b1 (nI n1) 1 - y)), (12, .int (mixd σ a1 b1 (nI n1) 0 - x)), (11, .int (nI (3 * jb))), (10, .int (nI (3 * ja))), (0, .int (x)), (1, .int (y)), (2, .int (z)), (3, .ref (g 0)), (4, .ref (g 1)), (5, .int ((DQ σ x y z a1 b1 (n1 + 1)).1)), (6, .int ((DQ σ x y z a1 b1 (n1 + 1)).2)), (7, .int (nI (a1))), (8, .int (nI (b1)))] C dL_recipe_203 rfl (i32_dec _) (by decide) rfl ?_
                      refine g_goto 28 C dL_recipe_206 (by decide) ?_
                      refine g_lv [7, 8, 9, 10, 11, 12, 13, 14, 15, 0] [(0, .int (x)), (1, .int (y)), (2, .int (z)), (3, .ref (g 0)), (4, .ref (g 1)), (5, .int ((DQ σ x y z a1 b1 (n1 + 1)).1)), (6, .int ((DQ σ x y z a1 b1 (n1 + 1)).2)), (7, .int (nI (a1))), (8, .int (nI (b1))), (9, .int (nI (n1) - 1))] rfl ?_
                      have hx := ih_28 n1 (by omega) (by omega)
                      rw [DQ_skip (Or.inl ((le_z (hG a1 (by omega))).mp c_160_4))] at hx
                      exact hx
                    ·
                      refine g_aload 10 C rfl dL_recipe_163 ?_
                      refine g_iconst 3 C dL_recipe_165 (by decide) ?_
                      refine g_iload 14 C rfl dL_recipe_166 ?_
                      refine g_imulN 3 b1 C dL_recipe_168 ?_
                      refine g_iconst 1 C dL_recipe_169 (by decide) ?_
                      refine g_iaddN (3 * b1) 1 C dL_recipe_170 ?_
                      refine g_ialdN (cA := cI) (n := 18) (a := g 1) (f := τ.2 1) ((3 * b1) + 1) 1 0 C rfl rfl (by omega) (by decide) dL_recipe_171 ?_
                      refine g_is ((σ.2 2 b1)) (hT2 b1 (by omega)) ?_
                      refine g_if_le 203 C dL_recipe_172 (by decide) (fun c_172_5 => ?_) (fun c_172_5 => ?_)
                      ·
                        refine g_iinc 15 (nI (n1) - 1) [(9, .int (nI (n1) - 1)), (15, .int (rdist σ a1 b1 n1 x y z)), (14, .int (mixd σ a1 b1 (nI n1) 2 - z)), (13, .int (mixd σ a1 b1 (nI n1) 1 - y)), (12, .int (mixd σ a1 b1 (nI n1) 0 - x)), (11, .int (nI (3 * jb))), (10, .int (nI (3 * ja))), (0, .int (x)), (1, .int (y)), (2, .int (z)), (3, .ref (g 0)), (4, .ref (g 1)), (5, .int ((DQ σ x y z a1 b1 (n1 + 1)).1)), (6, .int ((DQ σ x y z a1 b1 (n1 + 1)).2)), (7, .int (nI (a1))), (8, .int (nI (b1)))] C dL_recipe_203 rfl (i32_dec _) (by decide) rfl ?_
                        refine g_goto 28 C dL_recipe_206 (by decide) ?_
                        refine g_lv [7, 8, 9, 10, 11, 12, 13, 14, 15, 0] [(0, .int (x)), (1, .int (y)), (2, .int (z)), (3, .ref (g 0)), (4, .ref (g 1)), (5, .int ((DQ σ x y z a1 b1 (n1 + 1)).1)), (6, .int ((DQ σ x y z a1 b1 (n1 + 1)).2)), (7, .int (nI (a1))), (8, .int (nI (b1))), (9, .int (nI (n1) - 1))] rfl ?_
                        have hx := ih_28 n1 (by omega) (by omega)
                        rw [DQ_skip (Or.inr ((le_z (hG b1 (by omega))).mp c_172_5))] at hx
                        exact hx
                      ·
                        refine g_iload 0 C rfl dL_recipe_175 ?_
                        refine g_iload 12 C rfl dL_recipe_177 ?_
                        refine g_icmp_gt 203 C dL_recipe_179 (by decide) (fun c_179_6 => ?_) (fun c_179_6 => ?_)
                        ·
                          refine g_iinc 15 (nI (n1) - 1) [(9, .int (nI (n1) - 1)), (15, .int (rdist σ a1 b1 n1 x y z)), (14, .int (mixd σ a1 b1 (nI n1) 2 - z)), (13, .int (mixd σ a1 b1 (nI n1) 1 - y)), (12, .int (mixd σ a1 b1 (nI n1) 0 - x)), (11, .int (nI (3 * jb))), (10, .int (nI (3 * ja))), (0, .int (x)), (1, .int (y)), (2, .int (z)), (3, .ref (g 0)), (4, .ref (g 1)), (5, .int ((DQ σ x y z a1 b1 (n1 + 1)).1)), (6, .int ((DQ σ x y z a1 b1 (n1 + 1)).2)), (7, .int (nI (a1))), (8, .int (nI (b1)))] C dL_recipe_203 rfl (i32_dec _) (by decide) rfl ?_
                          refine g_goto 28 C dL_recipe_206 (by decide) ?_
                          refine g_lv [7, 8, 9, 10, 11, 12, 13, 14, 15, 0] [(0, .int (x)), (1, .int (y)), (2, .int (z)), (3, .ref (g 0)), (4, .ref (g 1)), (5, .int ((DQ σ x y z a1 b1 (n1 + 1)).1)), (6, .int ((DQ σ x y z a1 b1 (n1 + 1)).2)), (7, .int (nI (a1))), (8, .int (nI (b1))), (9, .int (nI (n1) - 1))] rfl ?_
                          have hx := ih_28 n1 (by omega) (by omega)
                          rw [DQ_far (fun w => w.elim (fun w => c_160_4 ((le_z (hG a1 (by omega))).mpr w)) (fun w => c_172_5 ((le_z (hG b1 (by omega))).mpr w))) (by omega) (i32_nle c_179_6)] at hx
                          exact hx
                        ·
                          refine g_iload 0 C rfl dL_recipe_182 ?_
                          refine g_istore [(6, .int (rdist σ a1 b1 n1 x y z)), (15, .int (rdist σ a1 b1 n1 x y z)), (14, .int (mixd σ a1 b1 (nI n1) 2 - z)), (13, .int (mixd σ a1 b1 (nI n1) 1 - y)), (12, .int (mixd σ a1 b1 (nI n1) 0 - x)), (11, .int (nI (3 * jb))), (10, .int (nI (3 * ja))), (0, .int (x)), (1, .int (y)), (2, .int (z)), (3, .ref (g 0)), (4, .ref (g 1)), (5, .int ((DQ σ x y z a1 b1 (n1 + 1)).1)), (7, .int (nI (a1))), (8, .int (nI (b1))), (9, .int (nI (n1)))] C dL_recipe_184 (by decide) rfl ?_
                          refine g_sipush 1000 C dL_recipe_186 (by decide) ?_
                          refine g_iload 13 C rfl dL_recipe_189 ?_
                          refine g_imulN 1000 a1 C dL_recipe_191 ?_
                          refine g_bipush 10 C dL_recipe_192 (by decide) ?_
                          refine g_iload 14 C rfl dL_recipe_194 ?_
                          refine g_imulN 10 b1 C dL_recipe_196 ?_
                          refine g_iaddN (1000 * a1) (10 * b1) C dL_recipe_197 ?_
                          refine g_iload 15 C rfl dL_recipe_198 ?_
                          refine g_iaddN ((1000 * a1) + (10 * b1)) n1 C dL_recipe_200 ?_
                          refine g_istore [(5, .int (nI (((1000 * a1) + (10 * b1)) + n1))), (6, .int (rdist σ a1 b1 n1 x y z)), (15, .int (rdist σ a1 b1 n1 x y z)), (14, .int (mixd σ a1 b1 (nI n1) 2 - z)), (13, .int (mixd σ a1 b1 (nI n1) 1 - y)), (12, .int (mixd σ a1 b1 (nI n1) 0 - x)), (11, .int (nI (3 * jb))), (10, .int (nI (3 * ja))), (0, .int (x)), (1, .int (y)), (2, .int (z)), (3, .ref (g 0)), (4, .ref (g 1)), (7, .int (nI (a1))), (8, .int (nI (b1))), (9, .int (nI (n1)))] C dL_recipe_201 (by decide) rfl ?_
                          refine g_iinc 15 (nI (n1) - 1) [(9, .int (nI (n1) - 1)), (5, .int (nI (((1000 * a1) + (10 * b1)) + n1))), (6, .int (rdist σ a1 b1 n1 x y z)), (15, .int (rdist σ a1 b1 n1 x y z)), (14, .int (mixd σ a1 b1 (nI n1) 2 - z)), (13, .int (mixd σ a1 b1 (nI n1) 1 - y)), (12, .int (mixd σ a1 b1 (nI n1) 0 - x)), (11, .int (nI (3 * jb))), (10, .int (nI (3 * ja))), (0, .int (x)), (1, .int (y)), (2, .int (z)), (3, .ref (g 0)), (4, .ref (g 1)), (7, .int (nI (a1))), (8, .int (nI (b1)))] C dL_recipe_203 rfl (i32_dec _) (by decide) rfl ?_
                          refine g_goto 28 C dL_recipe_206 (by decide) ?_
                          refine g_lv [9, 10, 11, 12, 13, 1, 2, 14, 15, 0] [(0, .int (x)), (1, .int (y)), (2, .int (z)), (3, .ref (g 0)), (4, .ref (g 1)), (5, .int (nI (((1000 * a1) + (10 * b1)) + n1))), (6, .int (rdist σ a1 b1 n1 x y z)), (7, .int (nI (a1))), (8, .int (nI (b1))), (9, .int (nI (n1) - 1))] rfl ?_
                          have hx := ih_28 n1 (by omega) (by omega)
                          rw [DQ_near (fun w => w.elim (fun w => c_160_4 ((le_z (hG a1 (by omega))).mpr w)) (fun w => c_172_5 ((le_z (hG b1 (by omega))).mpr w))) (by omega) (i32_ge c_179_6)] at hx
                          exact hx
              refine g_lv [1, 2, 3, 4, 5, 6, 7, 8, 9, 0] [(0, .int (x)), (1, .int (y)), (2, .int (z)), (3, .ref (g 0)), (4, .ref (g 1)), (5, .int ((DB σ x y z a1 (b1 + 1)).1)), (6, .int ((DB σ x y z a1 (b1 + 1)).2)), (7, .int (nI (a1))), (8, .int (nI (b1))), (9, .int (4))] rfl ?_
              have hl := loop_28 6 5 (by omega) (by omega)
              rw [DQ_5, nI_pred 4] at hl
              exact hl
        refine g_lv [1, 2, 3, 4, 5, 6, 7, 8, 0] [(0, .int (x)), (1, .int (y)), (2, .int (z)), (3, .ref (g 0)), (4, .ref (g 1)), (5, .int ((DA σ x y z (a1 + 1)).1)), (6, .int ((DA σ x y z (a1 + 1)).2)), (7, .int (nI (a1))), (8, .int (5))] rfl ?_
        have hl := loop_18 7 6 (by omega) (by omega) (by omega)
        rw [DB_6, nI_pred 5] at hl
        exact hl
  refine g_lv [3, 4, 5, 6, 7, 2, 1, 0] [(0, .int (x)), (1, .int (y)), (2, .int (z)), (3, .ref (g 0)), (4, .ref (g 1)), (5, .int ((-1))), (6, .int (2147483647)), (7, .int (5))] rfl ?_
  have hl := loop_10 7 6 (by omega) (by omega)
  rw [DA_6, nI_pred 5] at hl
  exact hl
