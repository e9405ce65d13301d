/-! A day in the law. -/
set_option maxRecDepth 100000 in
set_option maxHeartbeats 4000000 in
theorem c_day (l : Launch) (D : va_G) (cI cJ : ClassId) (g : Nat → Nat) (τ : gS) (hO : dOK τ) : MC l yL_day wsL_day 0 0 D (tyIJ cI cJ) [.ref (g 5), .ref (g 6)] (wL cI g τ) (wL cI g (dayS τ 4)) none none 0 := by
  refine MC.ofG (cc := cL_day) (maxL := 4) (ret := none) [(0, .ref (g 5)), (1, .ref (g 6))] (by decide) rfl (Nat.le_of_ble_eq_true rfl) rfl ?_
  intro p e s m args below meth c C hr hout
  refine g_iconst 0 C dL_day_0 (by decide) ?_
  refine g_istore_n [(2, .int (0)), (0, .ref (g 5)), (1, .ref (g 6))] C dL_day_1 rfl (by decide) rfl ?_
  have loop_2 : ∀ (fu : Nat) (i : Nat), i ≤ 4 → 5 ≤ i + fu → G p l e ({ frames := 0, cells := 0, slots := 6 * 0, locals := 0 } : Room) s m args below meth c D (va_A (wL cI g τ) s.heap.size) 4 0 0 (gQ below D (wL cI g τ) (wL cI g (dayS τ 4)) none none 0 args s) (wL cI g (dayS τ i)) [(0, .ref (g 5)), (1, .ref (g 6)), (2, .int (nI (i)))] 2 [] := by
    intro fu
    induction fu with
    | zero => intro i hi hf; exact absurd True.intro (by omega)
    | succ fu ih_2 =>
      intro i hi hf
      refine g_iload_n 2 C rfl dL_day_2 rfl ?_
      refine g_iconst 4 C dL_day_3 (by decide) ?_
      refine g_icmp_ge 114 C dL_day_4 (by decide) (fun c_4_1 => ?_) (fun c_4_1 => ?_)
      ·
        have d_4_1 : 4 ≤ i := (nI_leI (a := 4) (b := i) (by omega) (by omega)).mp c_4_1
        exact g_vret C hr dL_day_114 (Nat.zero_le _) (Nat.zero_le _) rfl rfl (by rw [show i = 4 by omega])
      ·
        have d_4_1 : ¬ 4 ≤ i := fun zz => c_4_1 ((nI_leI (a := 4) (b := i) (by omega) (by omega)).mpr zz)
        refine g_aload_n 0 C rfl dL_day_7 rfl ?_
        refine g_bipush 7 C dL_day_8 (by decide) ?_
        refine g_iload_n 2 C rfl dL_day_10 rfl ?_
        refine g_imulN 7 i C dL_day_11 ?_
        refine g_iconst 3 C dL_day_12 (by decide) ?_
        refine g_iaddN (7 * i) 3 C dL_day_13 ?_
        refine g_ialdN (cA := cI) (n := 28) (a := g 5) (f := (dayS τ i).2 5) ((7 * i) + 3) 5 0 C rfl rfl (by omega) (by decide) dL_day_14 ?_
        obtain ⟨j, hj, ej⟩ := dOK_S hO i (by omega) i (by omega)
        refine g_is (nI (j)) ej ?_
        refine g_iconst 1 C dL_day_15 (by decide) ?_
        refine g_isub C dL_day_16 ?_
        refine g_istore_n [(3, .int (nI (j) - 1)), (0, .ref (g 5)), (1, .ref (g 6)), (2, .int (nI (i)))] C dL_day_17 rfl (by decide) rfl ?_
        refine g_iload_n 0 C rfl dL_day_18 rfl ?_
        refine g_if_lt 108 C dL_day_19 (by decide) (fun c_19_2 => ?_) (fun c_19_2 => ?_)
        ·
          have h0 : j = 0 := Classical.byContradiction (fun z => by have e1 : nI j - 1 = nI (j - 1) := pk_sub (a := j) (b := 1) (by omega); rw [e1] at c_19_2; exact nI_pos (by omega) c_19_2)
          subst h0
          refine g_iincN 3 i 1 [(2, .int (nI (i + 1))), (3, .int (nI (0) - 1)), (0, .ref (g 5)), (1, .ref (g 6))] C dL_day_108 rfl (by decide) (by decide) rfl ?_
          refine g_goto 2 C dL_day_111 (by decide) ?_
          refine g_lv [2, 3, 0] [(0, .ref (g 5)), (1, .ref (g 6)), (2, .int (nI (i + 1)))] rfl ?_
          have hx := ih_2 (i + 1) (by omega) (by omega)
          rw [day_no ej] at hx
          exact hx
        ·
          have h1 : ¬ j = 0 := fun z => c_19_2 (by rw [z]; decide)
          obtain ⟨a, rfl⟩ : ∃ a, j = a + 1 := ⟨j - 1, by omega⟩
          rw [nI_pred a]
          refine g_aload_n 2 C rfl dL_day_22 rfl ?_
          refine g_iconst 4 C dL_day_23 (by decide) ?_
          refine g_iload_n 0 C rfl dL_day_24 rfl ?_
          refine g_iaddN 4 a C dL_day_25 ?_
          refine g_dup2 C dL_day_26 rfl rfl ?_
          refine g_ialdN (cA := cI) (n := 8) (a := g 6) (f := (dayS τ i).2 6) (4 + a) 6 0 C rfl rfl (by omega) (by decide) dL_day_27 ?_
          refine g_aload_n 1 C rfl dL_day_28 rfl ?_
          refine g_bipush 7 C dL_day_29 (by decide) ?_
          refine g_iload_n 3 C rfl dL_day_31 rfl ?_
          refine g_imulN 7 i C dL_day_32 ?_
          refine g_iconst 5 C dL_day_33 (by decide) ?_
          refine g_iaddN (7 * i) 5 C dL_day_34 ?_
          refine g_ialdN (cA := cI) (n := 28) (a := g 5) (f := (dayS τ i).2 5) ((7 * i) + 5) 5 0 C rfl rfl (by omega) (by decide) dL_day_35 ?_
          refine g_iadd C dL_day_36 ?_
          refine g_iastN (cA := cI) (n := 8) (a := g 6) (f := (dayS τ i).2 6) (x := ((((dayS τ i).2 6) (4 + a)) + (((dayS τ i).2 5) ((7 * i) + 5)))) (4 + a) 6 0 (wL cI g (sA (dayS τ i) 6 (upd ((dayS τ i).2 6) (4 + a) (((((dayS τ i).2 6) (4 + a)) + (((dayS τ i).2 5) ((7 * i) + 5))))))) C rfl rfl (by omega) (by decide) rfl dL_day_37 ?_
          refine g_aload_n 1 C rfl dL_day_38 rfl ?_
          refine g_bipush 7 C dL_day_39 (by decide) ?_
          refine g_iload_n 3 C rfl dL_day_41 rfl ?_
          refine g_imulN 7 i C dL_day_42 ?_
          refine g_iconst 1 C dL_day_43 (by decide) ?_
          refine g_iaddN (7 * i) 1 C dL_day_44 ?_
          refine g_dup2 C dL_day_45 rfl rfl ?_
          refine g_ialdN (cA := cI) (n := 28) (a := g 5) (f := (dayS τ i).2 5) ((7 * i) + 1) 5 0 C rfl rfl (by omega) (by decide) dL_day_46 ?_
          refine g_aload_n 2 C rfl dL_day_47 rfl ?_
          refine g_iload_n 0 C rfl dL_day_48 rfl ?_
          refine g_ialdN (cA := cI) (n := 8) (a := g 6) (f := upd ((dayS τ i).2 6) (4 + a) (((((dayS τ i).2 6) (4 + a)) + (((dayS τ i).2 5) ((7 * i) + 5))))) a 6 0 C rfl rfl (by omega) (by decide) dL_day_49 ?_
          refine g_is (((dayS τ i).2 6 a)) (by rw [upd, if_neg (by omega)]) ?_
          refine g_bipush 40 C dL_day_50 (by decide) ?_
          refine g_icmp_lt 63 C dL_day_52 (by decide) (fun c_52_3 => ?_) (fun c_52_3 => ?_)
          ·
            refine g_iconst 1 C dL_day_63 (by decide) ?_
            refine g_goto 68 C dL_day_64 (by decide) ?_
            refine g_iadd C dL_day_68 ?_
            refine g_is (((dayS τ i).2 5 (7 * i + 1) + (if (dayS τ i).2 6 a < 40 ∨ ¬ (dayS τ i).2 6 a ≤ 60 then 1 else 0))) (by show _ = (dayS τ i).2 5 (7 * i + 1) + (if (dayS τ i).2 6 a < 40 ∨ ¬ (dayS τ i).2 6 a ≤ 60 then 1 else 0); rw [if_pos (Or.inl c_52_3)]) ?_
            refine g_iastN (cA := cI) (n := 28) (a := g 5) (f := (dayS τ i).2 5) (x := ((dayS τ i).2 5 (7 * i + 1) + (if (dayS τ i).2 6 a < 40 ∨ ¬ (dayS τ i).2 6 a ≤ 60 then 1 else 0))) ((7 * i) + 1) 5 0 (wL cI g (sA (sA (dayS τ i) 6 (upd ((dayS τ i).2 6) (4 + a) (((((dayS τ i).2 6) (4 + a)) + (((dayS τ i).2 5) ((7 * i) + 5)))))) 5 (upd ((dayS τ i).2 5) ((7 * i) + 1) (((dayS τ i).2 5 (7 * i + 1) + (if (dayS τ i).2 6 a < 40 ∨ ¬ (dayS τ i).2 6 a ≤ 60 then 1 else 0)))))) C rfl rfl (by omega) (by decide) rfl dL_day_69 ?_
            refine g_aload_n 1 C rfl dL_day_70 rfl ?_
            refine g_bipush 7 C dL_day_71 (by decide) ?_
            refine g_iload_n 3 C rfl dL_day_73 rfl ?_
            refine g_imulN 7 i C dL_day_74 ?_
            refine g_iconst 4 C dL_day_75 (by decide) ?_
            refine g_iaddN (7 * i) 4 C dL_day_76 ?_
            refine g_dup2 C dL_day_77 rfl rfl ?_
            refine g_ialdN (cA := cI) (n := 28) (a := g 5) (f := upd ((dayS τ i).2 5) ((7 * i) + 1) (((dayS τ i).2 5 (7 * i + 1) + (if (dayS τ i).2 6 a < 40 ∨ ¬ (dayS τ i).2 6 a ≤ 60 then 1 else 0)))) ((7 * i) + 4) 5 0 C rfl rfl (by omega) (by decide) dL_day_78 ?_
            refine g_is (((dayS τ i).2 5 (7 * i + 4))) (by rw [upd, if_neg (by omega)]) ?_
            refine g_iconst 1 C dL_day_79 (by decide) ?_
            refine g_isub C dL_day_80 ?_
            refine g_iastN (cA := cI) (n := 28) (a := g 5) (f := upd ((dayS τ i).2 5) ((7 * i) + 1) (((dayS τ i).2 5 (7 * i + 1) + (if (dayS τ i).2 6 a < 40 ∨ ¬ (dayS τ i).2 6 a ≤ 60 then 1 else 0)))) (x := (((dayS τ i).2 5 (7 * i + 4)) - 1)) ((7 * i) + 4) 5 0 (wL cI g (sA (sA (dayS τ i) 6 (upd ((dayS τ i).2 6) (4 + a) (((((dayS τ i).2 6) (4 + a)) + (((dayS τ i).2 5) ((7 * i) + 5)))))) 5 (upd (upd ((dayS τ i).2 5) ((7 * i) + 1) (((dayS τ i).2 5 (7 * i + 1) + (if (dayS τ i).2 6 a < 40 ∨ ¬ (dayS τ i).2 6 a ≤ 60 then 1 else 0)))) ((7 * i) + 4) ((((dayS τ i).2 5 (7 * i + 4)) - 1))))) C rfl rfl (by omega) (by decide) rfl dL_day_81 ?_
            refine g_aload_n 1 C rfl dL_day_82 rfl ?_
            refine g_bipush 7 C dL_day_83 (by decide) ?_
            refine g_iload_n 3 C rfl dL_day_85 rfl ?_
            refine g_imulN 7 i C dL_day_86 ?_
            refine g_iconst 3 C dL_day_87 (by decide) ?_
            refine g_iaddN (7 * i) 3 C dL_day_88 ?_
            refine g_aload_n 1 C rfl dL_day_89 rfl ?_
            refine g_bipush 7 C dL_day_90 (by decide) ?_
            refine g_iload_n 3 C rfl dL_day_92 rfl ?_
            refine g_imulN 7 i C dL_day_93 ?_
            refine g_iconst 4 C dL_day_94 (by decide) ?_
            refine g_iaddN (7 * i) 4 C dL_day_95 ?_
            refine g_ialdN (cA := cI) (n := 28) (a := g 5) (f := upd (upd ((dayS τ i).2 5) ((7 * i) + 1) (((dayS τ i).2 5 (7 * i + 1) + (if (dayS τ i).2 6 a < 40 ∨ ¬ (dayS τ i).2 6 a ≤ 60 then 1 else 0)))) ((7 * i) + 4) ((((dayS τ i).2 5 (7 * i + 4)) - 1))) ((7 * i) + 4) 5 0 C rfl rfl (by omega) (by decide) dL_day_96 ?_
            refine g_is ((((dayS τ i).2 5 (7 * i + 4)) - 1)) pk_us ?_
            refine g_if_le 106 C dL_day_97 (by decide) (fun c_97_4 => ?_) (fun c_97_4 => ?_)
            ·
              refine g_iconst 0 C dL_day_106 (by decide) ?_
              refine g_is ((if ¬ (dayS τ i).2 5 (7 * i + 4) - 1 ≤ 0 then nI (a + 1) else 0)) (by show _ = (if ¬ (dayS τ i).2 5 (7 * i + 4) - 1 ≤ 0 then nI (a + 1) else 0); rw [if_neg (fun z => z c_97_4)]) ?_
              refine g_iastN (cA := cI) (n := 28) (a := g 5) (f := upd (upd ((dayS τ i).2 5) ((7 * i) + 1) (((dayS τ i).2 5 (7 * i + 1) + (if (dayS τ i).2 6 a < 40 ∨ ¬ (dayS τ i).2 6 a ≤ 60 then 1 else 0)))) ((7 * i) + 4) ((((dayS τ i).2 5 (7 * i + 4)) - 1))) (x := (if ¬ (dayS τ i).2 5 (7 * i + 4) - 1 ≤ 0 then nI (a + 1) else 0)) ((7 * i) + 3) 5 0 (wL cI g (sA (sA (dayS τ i) 6 (upd ((dayS τ i).2 6) (4 + a) (((((dayS τ i).2 6) (4 + a)) + (((dayS τ i).2 5) ((7 * i) + 5)))))) 5 (upd (upd (upd ((dayS τ i).2 5) ((7 * i) + 1) (((dayS τ i).2 5 (7 * i + 1) + (if (dayS τ i).2 6 a < 40 ∨ ¬ (dayS τ i).2 6 a ≤ 60 then 1 else 0)))) ((7 * i) + 4) ((((dayS τ i).2 5 (7 * i + 4)) - 1))) ((7 * i) + 3) ((if ¬ (dayS τ i).2 5 (7 * i + 4) - 1 ≤ 0 then nI (a + 1) else 0))))) C rfl rfl (by omega) (by decide) rfl dL_day_107 ?_
              refine g_iincN 3 i 1 [(2, .int (nI (i + 1))), (3, .int (nI (a))), (0, .ref (g 5)), (1, .ref (g 6))] C dL_day_108 rfl (by decide) (by decide) rfl ?_
              refine g_goto 2 C dL_day_111 (by decide) ?_
              refine g_lv [2, 3, 0] [(0, .ref (g 5)), (1, .ref (g 6)), (2, .int (nI (i + 1)))] rfl ?_
              have hx := ih_2 (i + 1) (by omega) (by omega)
              rw [day_yes (by omega) ej] at hx
              exact hx
            ·
              refine g_iload_n 0 C rfl dL_day_100 rfl ?_
              refine g_iconst 1 C dL_day_101 (by decide) ?_
              refine g_iaddN a 1 C dL_day_102 ?_
              refine g_goto 107 C dL_day_103 (by decide) ?_
              refine g_is ((if ¬ (dayS τ i).2 5 (7 * i + 4) - 1 ≤ 0 then nI (a + 1) else 0)) (by show _ = (if ¬ (dayS τ i).2 5 (7 * i + 4) - 1 ≤ 0 then nI (a + 1) else 0); rw [if_pos c_97_4]) ?_
              refine g_iastN (cA := cI) (n := 28) (a := g 5) (f := upd (upd ((dayS τ i).2 5) ((7 * i) + 1) (((dayS τ i).2 5 (7 * i + 1) + (if (dayS τ i).2 6 a < 40 ∨ ¬ (dayS τ i).2 6 a ≤ 60 then 1 else 0)))) ((7 * i) + 4) ((((dayS τ i).2 5 (7 * i + 4)) - 1))) (x := (if ¬ (dayS τ i).2 5 (7 * i + 4) - 1 ≤ 0 then nI (a + 1) else 0)) ((7 * i) + 3) 5 0 (wL cI g (sA (sA (dayS τ i) 6 (upd ((dayS τ i).2 6) (4 + a) (((((dayS τ i).2 6) (4 + a)) + (((dayS τ i).2 5) ((7 * i) + 5)))))) 5 (upd (upd (upd ((dayS τ i).2 5) ((7 * i) + 1) (((dayS τ i).2 5 (7 * i + 1) + (if (dayS τ i).2 6 a < 40 ∨ ¬ (dayS τ i).2 6 a ≤ 60 then 1 else 0)))) ((7 * i) + 4) ((((dayS τ i).2 5 (7 * i + 4)) - 1))) ((7 * i) + 3) ((if ¬ (dayS τ i).2 5 (7 * i + 4) - 1 ≤ 0 then nI (a + 1) else 0))))) C rfl rfl (by omega) (by decide) rfl dL_day_107 ?_
              refine g_iincN 3 i 1 [(2, .int (nI (i + 1))), (3, .int (nI (a))), (0, .ref (g 5)), (1, .ref (g 6))] C dL_day_108 rfl (by decide) (by decide) rfl ?_
              refine g_goto 2 C dL_day_111 (by decide) ?_
              refine g_lv [2, 3, 0] [(0, .ref (g 5)), (1, .ref (g 6)), (2, .int (nI (i + 1)))] rfl ?_
              have hx := ih_2 (i + 1) (by omega) (by omega)
              rw [day_yes (by omega) ej] at hx
              exact hx
          ·
            refine g_aload_n 2 C rfl dL_day_55 rfl ?_
            refine g_iload_n 0 C rfl dL_day_56 rfl ?_
            refine g_ialdN (cA := cI) (n := 8) (a := g 6) (f := upd ((dayS τ i).2 6) (4 + a) (((((dayS τ i).2 6) (4 + a)) + (((dayS τ i).2 5) ((7 * i) + 5))))) a 6 0 C rfl rfl (by omega) (by decide) dL_day_57 ?_
            refine g_is (((dayS τ i).2 6 a)) (by rw [upd, if_neg (by omega)]) ?_
            refine g_bipush 60 C dL_day_58 (by decide) ?_
            refine g_icmp_le 67 C dL_day_60 (by decide) (fun c_60_5 => ?_) (fun c_60_5 => ?_)
            ·
              refine g_iconst 0 C dL_day_67 (by decide) ?_
              refine g_iadd C dL_day_68 ?_
              refine g_is (((dayS τ i).2 5 (7 * i + 1) + (if (dayS τ i).2 6 a < 40 ∨ ¬ (dayS τ i).2 6 a ≤ 60 then 1 else 0))) (by show _ = (dayS τ i).2 5 (7 * i + 1) + (if (dayS τ i).2 6 a < 40 ∨ ¬ (dayS τ i).2 6 a ≤ 60 then 1 else 0); rw [if_neg (fun z => z.elim c_52_3 (fun z => z c_60_5))]) ?_
              refine g_iastN (cA := cI) (n := 28) (a := g 5) (f := (dayS τ i).2 5) (x := ((dayS τ i).2 5 (7 * i + 1) + (if (dayS τ i).2 6 a < 40 ∨ ¬ (dayS τ i).2 6 a ≤ 60 then 1 else 0))) ((7 * i) + 1) 5 0 (wL cI g (sA (sA (dayS τ i) 6 (upd ((dayS τ i).2 6) (4 + a) (((((dayS τ i).2 6) (4 + a)) + (((dayS τ i).2 5) ((7 * i) + 5)))))) 5 (upd ((dayS τ i).2 5) ((7 * i) + 1) (((dayS τ i).2 5 (7 * i + 1) + (if (dayS τ i).2 6 a < 40 ∨ ¬ (dayS τ i).2 6 a ≤ 60 then 1 else 0)))))) C rfl rfl (by omega) (by decide) rfl dL_day_69 ?_
              refine g_aload_n 1 C rfl dL_day_70 rfl ?_
              refine g_bipush 7 C dL_day_71 (by decide) ?_
              refine g_iload_n 3 C rfl dL_day_73 rfl ?_
              refine g_imulN 7 i C dL_day_74 ?_
              refine g_iconst 4 C dL_day_75 (by decide) ?_
              refine g_iaddN (7 * i) 4 C dL_day_76 ?_
              refine g_dup2 C dL_day_77 rfl rfl ?_
              refine g_ialdN (cA := cI) (n := 28) (a := g 5) (f := upd ((dayS τ i).2 5) ((7 * i) + 1) (((dayS τ i).2 5 (7 * i + 1) + (if (dayS τ i).2 6 a < 40 ∨ ¬ (dayS τ i).2 6 a ≤ 60 then 1 else 0)))) ((7 * i) + 4) 5 0 C rfl rfl (by omega) (by decide) dL_day_78 ?_
              refine g_is (((dayS τ i).2 5 (7 * i + 4))) (by rw [upd, if_neg (by omega)]) ?_
              refine g_iconst 1 C dL_day_79 (by decide) ?_
              refine g_isub C dL_day_80 ?_
              refine g_iastN (cA := cI) (n := 28) (a := g 5) (f := upd ((dayS τ i).2 5) ((7 * i) + 1) (((dayS τ i).2 5 (7 * i + 1) + (if (dayS τ i).2 6 a < 40 ∨ ¬ (dayS τ i).2 6 a ≤ 60 then 1 else 0)))) (x := (((dayS τ i).2 5 (7 * i + 4)) - 1)) ((7 * i) + 4) 5 0 (wL cI g (sA (sA (dayS τ i) 6 (upd ((dayS τ i).2 6) (4 + a) (((((dayS τ i).2 6) (4 + a)) + (((dayS τ i).2 5) ((7 * i) + 5)))))) 5 (upd (upd ((dayS τ i).2 5) ((7 * i) + 1) (((dayS τ i).2 5 (7 * i + 1) + (if (dayS τ i).2 6 a < 40 ∨ ¬ (dayS τ i).2 6 a ≤ 60 then 1 else 0)))) ((7 * i) + 4) ((((dayS τ i).2 5 (7 * i + 4)) - 1))))) C rfl rfl (by omega) (by decide) rfl dL_day_81 ?_
              refine g_aload_n 1 C rfl dL_day_82 rfl ?_
              refine g_bipush 7 C dL_day_83 (by decide) ?_
              refine g_iload_n 3 C rfl dL_day_85 rfl ?_
              refine g_imulN 7 i C dL_day_86 ?_
              refine g_iconst 3 C dL_day_87 (by decide) ?_
              refine g_iaddN (7 * i) 3 C dL_day_88 ?_
              refine g_aload_n 1 C rfl dL_day_89 rfl ?_
              refine g_bipush 7 C dL_day_90 (by decide) ?_
              refine g_iload_n 3 C rfl dL_day_92 rfl ?_
              refine g_imulN 7 i C dL_day_93 ?_
              refine g_iconst 4 C dL_day_94 (by decide) ?_
              refine g_iaddN (7 * i) 4 C dL_day_95 ?_
              refine g_ialdN (cA := cI) (n := 28) (a := g 5) (f := upd (upd ((dayS τ i).2 5) ((7 * i) + 1) (((dayS τ i).2 5 (7 * i + 1) + (if (dayS τ i).2 6 a < 40 ∨ ¬ (dayS τ i).2 6 a ≤ 60 then 1 else 0)))) ((7 * i) + 4) ((((dayS τ i).2 5 (7 * i + 4)) - 1))) ((7 * i) + 4) 5 0 C rfl rfl (by omega) (by decide) dL_day_96 ?_
              refine g_is ((((dayS τ i).2 5 (7 * i + 4)) - 1)) pk_us ?_
              refine g_if_le 106 C dL_day_97 (by decide) (fun c_97_6 => ?_) (fun c_97_6 => ?_)
              ·
                refine g_iconst 0 C dL_day_106 (by decide) ?_
                refine g_is ((if ¬ (dayS τ i).2 5 (7 * i + 4) - 1 ≤ 0 then nI (a + 1) else 0)) (by show _ = (if ¬ (dayS τ i).2 5 (7 * i + 4) - 1 ≤ 0 then nI (a + 1) else 0); rw [if_neg (fun z => z c_97_6)]) ?_
                refine g_iastN (cA := cI) (n := 28) (a := g 5) (f := upd (upd ((dayS τ i).2 5) ((7 * i) + 1) (((dayS τ i).2 5 (7 * i + 1) + (if (dayS τ i).2 6 a < 40 ∨ ¬ (dayS τ i).2 6 a ≤ 60 then 1 else 0)))) ((7 * i) + 4) ((((dayS τ i).2 5 (7 * i + 4)) - 1))) (x := (if ¬ (dayS τ i).2 5 (7 * i + 4) - 1 ≤ 0 then nI (a + 1) else 0)) ((7 * i) + 3) 5 0 (wL cI g (sA (sA (dayS τ i) 6 (upd ((dayS τ i).2 6) (4 + a) (((((dayS τ i).2 6) (4 + a)) + (((dayS τ i).2 5) ((7 * i) + 5)))))) 5 (upd (upd (upd ((dayS τ i).2 5) ((7 * i) + 1) (((dayS τ i).2 5 (7 * i + 1) + (if (dayS τ i).2 6 a < 40 ∨ ¬ (dayS τ i).2 6 a ≤ 60 then 1 else 0)))) ((7 * i) + 4) ((((dayS τ i).2 5 (7 * i + 4)) - 1))) ((7 * i) + 3) ((if ¬ (dayS τ i).2 5 (7 * i + 4) - 1 ≤ 0 then nI (a + 1) else 0))))) C rfl rfl (by omega) (by decide) rfl dL_day_107 ?_
                refine g_iincN 3 i 1 [(2, .int (nI (i + 1))), (3, .int (nI (a))), (0, .ref (g 5)), (1, .ref (g 6))] C dL_day_108 rfl (by decide) (by decide) rfl ?_
                refine g_goto 2 C dL_day_111 (by decide) ?_
                refine g_lv [2, 3, 0] [(0, .ref (g 5)), (1, .ref (g 6)), (2, .int (nI (i + 1)))] rfl ?_
                have hx := ih_2 (i + 1) (by omega) (by omega)
                rw [day_yes (by omega) ej] at hx
                exact hx
              ·
                refine g_iload_n 0 C rfl dL_day_100 rfl ?_
                refine g_iconst 1 C dL_day_101 (by decide) ?_
                refine g_iaddN a 1 C dL_day_102 ?_
                refine g_goto 107 C dL_day_103 (by decide) ?_
                refine g_is ((if ¬ (dayS τ i).2 5 (7 * i + 4) - 1 ≤ 0 then nI (a + 1) else 0)) (by show _ = (if ¬ (dayS τ i).2 5 (7 * i + 4) - 1 ≤ 0 then nI (a + 1) else 0); rw [if_pos c_97_6]) ?_
                refine g_iastN (cA := cI) (n := 28) (a := g 5) (f := upd (upd ((dayS τ i).2 5) ((7 * i) + 1) (((dayS τ i).2 5 (7 * i + 1) + (if (dayS τ i).2 6 a < 40 ∨ ¬ (dayS τ i).2 6 a ≤ 60 then 1 else 0)))) ((7 * i) + 4) ((((dayS τ i).2 5 (7 * i + 4)) - 1))) (x := (if ¬ (dayS τ i).2 5 (7 * i + 4) - 1 ≤ 0 then nI (a + 1) else 0)) ((7 * i) + 3) 5 0 (wL cI g (sA (sA (dayS τ i) 6 (upd ((dayS τ i).2 6) (4 + a) (((((dayS τ i).2 6) (4 + a)) + (((dayS τ i).2 5) ((7 * i) + 5)))))) 5 (upd (upd (upd ((dayS τ i).2 5) ((7 * i) + 1) (((dayS τ i).2 5 (7 * i + 1) + (if (dayS τ i).2 6 a < 40 ∨ ¬ (dayS τ i).2 6 a ≤ 60 then 1 else 0)))) ((7 * i) + 4) ((((dayS τ i).2 5 (7 * i + 4)) - 1))) ((7 * i) + 3) ((if ¬ (dayS τ i).2 5 (7 * i + 4) - 1 ≤ 0 then nI (a + 1) else 0))))) C rfl rfl (by omega) (by decide) rfl dL_day_107 ?_
                refine g_iincN 3 i 1 [(2, .int (nI (i + 1))), (3, .int (nI (a))), (0, .ref (g 5)), (1, .ref (g 6))] C dL_day_108 rfl (by decide) (by decide) rfl ?_
                refine g_goto 2 C dL_day_111 (by decide) ?_
                refine g_lv [2, 3, 0] [(0, .ref (g 5)), (1, .ref (g 6)), (2, .int (nI (i + 1)))] rfl ?_
                have hx := ih_2 (i + 1) (by omega) (by omega)
                rw [day_yes (by omega) ej] at hx
                exact hx
            ·
              refine g_iconst 1 C dL_day_63 (by decide) ?_
              refine g_goto 68 C dL_day_64 (by decide) ?_
              refine g_iadd C dL_day_68 ?_
              refine g_is (((dayS τ i).2 5 (7 * i + 1) + (if (dayS τ i).2 6 a < 40 ∨ ¬ (dayS τ i).2 6 a ≤ 60 then 1 else 0))) (by show _ = (dayS τ i).2 5 (7 * i + 1) + (if (dayS τ i).2 6 a < 40 ∨ ¬ (dayS τ i).2 6 a ≤ 60 then 1 else 0); rw [if_pos (Or.inr c_60_5)]) ?_
              refine g_iastN (cA := cI) (n := 28) (a := g 5) (f := (dayS τ i).2 5) (x := ((dayS τ i).2 5 (7 * i + 1) + (if (dayS τ i).2 6 a < 40 ∨ ¬ (dayS τ i).2 6 a ≤ 60 then 1 else 0))) ((7 * i) + 1) 5 0 (wL cI g (sA (sA (dayS τ i) 6 (upd ((dayS τ i).2 6) (4 + a) (((((dayS τ i).2 6) (4 + a)) + (((dayS τ i).2 5) ((7 * i) + 5)))))) 5 (upd ((dayS τ i).2 5) ((7 * i) + 1) (((dayS τ i).2 5 (7 * i + 1) + (if (dayS τ i).2 6 a < 40 ∨ ¬ (dayS τ i).2 6 a ≤ 60 then 1 else 0)))))) C rfl rfl (by omega) (by decide) rfl dL_day_69 ?_
              refine g_aload_n 1 C rfl dL_day_70 rfl ?_
              refine g_bipush 7 C dL_day_71 (by decide) ?_
              refine g_iload_n 3 C rfl dL_day_73 rfl ?_
              refine g_imulN 7 i C dL_day_74 ?_
              refine g_iconst 4 C dL_day_75 (by decide) ?_
              refine g_iaddN (7 * i) 4 C dL_day_76 ?_
              refine g_dup2 C dL_day_77 rfl rfl ?_
              refine g_ialdN (cA := cI) (n := 28) (a := g 5) (f := upd ((dayS τ i).2 5) ((7 * i) + 1) (((dayS τ i).2 5 (7 * i + 1) + (if (dayS τ i).2 6 a < 40 ∨ ¬ (dayS τ i).2 6 a ≤ 60 then 1 else 0)))) ((7 * i) + 4) 5 0 C rfl rfl (by omega) (by decide) dL_day_78 ?_
              refine g_is (((dayS τ i).2 5 (7 * i + 4))) (by rw [upd, if_neg (by omega)]) ?_
              refine g_iconst 1 C dL_day_79 (by decide) ?_
              refine g_isub C dL_day_80 ?_
              refine g_iastN (cA := cI) (n := 28) (a := g 5) (f := upd ((dayS τ i).2 5) ((7 * i) + 1) (((dayS τ i).2 5 (7 * i + 1) + (if (dayS τ i).2 6 a < 40 ∨ ¬ (dayS τ i).2 6 a ≤ 60 then 1 else 0)))) (x := (((dayS τ i).2 5 (7 * i + 4)) - 1)) ((7 * i) + 4) 5 0 (wL cI g (sA (sA (dayS τ i) 6 (upd ((dayS τ i).2 6) (4 + a) (((((dayS τ i).2 6) (4 + a)) + (((dayS τ i).2 5) ((7 * i) + 5)))))) 5 (upd (upd ((dayS τ i).2 5) ((7 * i) + 1) (((dayS τ i).2 5 (7 * i + 1) + (if (dayS τ i).2 6 a < 40 ∨ ¬ (dayS τ i).2 6 a ≤ 60 then 1 else 0)))) ((7 * i) + 4) ((((dayS τ i).2 5 (7 * i + 4)) - 1))))) C rfl rfl (by omega) (by decide) rfl dL_day_81 ?_
              refine g_aload_n 1 C rfl dL_day_82 rfl ?_
              refine g_bipush 7 C dL_day_83 (by decide) ?_
              refine g_iload_n 3 C rfl dL_day_85 rfl ?_
              refine g_imulN 7 i C dL_day_86 ?_
              refine g_iconst 3 C dL_day_87 (by decide) ?_
              refine g_iaddN (7 * i) 3 C dL_day_88 ?_
              refine g_aload_n 1 C rfl dL_day_89 rfl ?_
              refine g_bipush 7 C dL_day_90 (by decide) ?_
              refine g_iload_n 3 C rfl dL_day_92 rfl ?_
              refine g_imulN 7 i C dL_day_93 ?_
              refine g_iconst 4 C dL_day_94 (by decide) ?_
              refine g_iaddN (7 * i) 4 C dL_day_95 ?_
              refine g_ialdN (cA := cI) (n := 28) (a := g 5) (f := upd (upd ((dayS τ i).2 5) ((7 * i) + 1) (((dayS τ i).2 5 (7 * i + 1) + (if (dayS τ i).2 6 a < 40 ∨ ¬ (dayS τ i).2 6 a ≤ 60 then 1 else 0)))) ((7 * i) + 4) ((((dayS τ i).2 5 (7 * i + 4)) - 1))) ((7 * i) + 4) 5 0 C rfl rfl (by omega) (by decide) dL_day_96 ?_
              refine g_is ((((dayS τ i).2 5 (7 * i + 4)) - 1)) pk_us ?_
              refine g_if_le 106 C dL_day_97 (by decide) (fun c_97_7 => ?_) (fun c_97_7 => ?_)
              ·
                refine g_iconst 0 C dL_day_106 (by decide) ?_
                refine g_is ((if ¬ (dayS τ i).2 5 (7 * i + 4) - 1 ≤ 0 then nI (a + 1) else 0)) (by show _ = (if ¬ (dayS τ i).2 5 (7 * i + 4) - 1 ≤ 0 then nI (a + 1) else 0); rw [if_neg (fun z => z c_97_7)]) ?_
                refine g_iastN (cA := cI) (n := 28) (a := g 5) (f := upd (upd ((dayS τ i).2 5) ((7 * i) + 1) (((dayS τ i).2 5 (7 * i + 1) + (if (dayS τ i).2 6 a < 40 ∨ ¬ (dayS τ i).2 6 a ≤ 60 then 1 else 0)))) ((7 * i) + 4) ((((dayS τ i).2 5 (7 * i + 4)) - 1))) (x := (if ¬ (dayS τ i).2 5 (7 * i + 4) - 1 ≤ 0 then nI (a + 1) else 0)) ((7 * i) + 3) 5 0 (wL cI g (sA (sA (dayS τ i) 6 (upd ((dayS τ i).2 6) (4 + a) (((((dayS τ i).2 6) (4 + a)) + (((dayS τ i).2 5) ((7 * i) + 5)))))) 5 (upd (upd (upd ((dayS τ i).2 5) ((7 * i) + 1) (((dayS τ i).2 5 (7 * i + 1) + (if (dayS τ i).2 6 a < 40 ∨ ¬ (dayS τ i).2 6 a ≤ 60 then 1 else 0)))) ((7 * i) + 4) ((((dayS τ i).2 5 (7 * i + 4)) - 1))) ((7 * i) + 3) ((if ¬ (dayS τ i).2 5 (7 * i + 4) - 1 ≤ 0 then nI (a + 1) else 0))))) C rfl rfl (by omega) (by decide) rfl dL_day_107 ?_
                refine g_iincN 3 i 1 [(2, .int (nI (i + 1))), (3, .int (nI (a))), (0, .ref (g 5)), (1, .ref (g 6))] C dL_day_108 rfl (by decide) (by decide) rfl ?_
                refine g_goto 2 C dL_day_111 (by decide) ?_
                refine g_lv [2, 3, 0] [(0, .ref (g 5)), (1, .ref (g 6)), (2, .int (nI (i + 1)))] rfl ?_
                have hx := ih_2 (i + 1) (by omega) (by omega)
                rw [day_yes (by omega) ej] at hx
                exact hx
              ·
                refine g_iload_n 0 C rfl dL_day_100 rfl ?_
                refine g_iconst 1 C dL_day_101 (by decide) ?_
                refine g_iaddN a 1 C dL_day_102 ?_
                refine g_goto 107 C dL_day_103 (by decide) ?_
                refine g_is ((if ¬ (dayS τ i).2 5 (7 * i + 4) - 1 ≤ 0 then nI (a + 1) else 0)) (by show _ = (if ¬ (dayS τ i).2 5 (7 * i + 4) - 1 ≤ 0 then nI (a + 1) else 0); rw [if_pos c_97_7]) ?_
                refine g_iastN (cA := cI) (n := 28) (a := g 5) (f := upd (upd ((dayS τ i).2 5) ((7 * i) + 1) (((dayS τ i).2 5 (7 * i + 1) + (if (dayS τ i).2 6 a < 40 ∨ ¬ (dayS τ i).2 6 a ≤ 60 then 1 else 0)))) ((7 * i) + 4) ((((dayS τ i).2 5 (7 * i + 4)) - 1))) (x := (if ¬ (dayS τ i).2 5 (7 * i + 4) - 1 ≤ 0 then nI (a + 1) else 0)) ((7 * i) + 3) 5 0 (wL cI g (sA (sA (dayS τ i) 6 (upd ((dayS τ i).2 6) (4 + a) (((((dayS τ i).2 6) (4 + a)) + (((dayS τ i).2 5) ((7 * i) + 5)))))) 5 (upd (upd (upd ((dayS τ i).2 5) ((7 * i) + 1) (((dayS τ i).2 5 (7 * i + 1) + (if (dayS τ i).2 6 a < 40 ∨ ¬ (dayS τ i).2 6 a ≤ 60 then 1 else 0)))) ((7 * i) + 4) ((((dayS τ i).2 5 (7 * i + 4)) - 1))) ((7 * i) + 3) ((if ¬ (dayS τ i).2 5 (7 * i + 4) - 1 ≤ 0 then nI (a + 1) else 0))))) C rfl rfl (by omega) (by decide) rfl dL_day_107 ?_
                refine g_iincN 3 i 1 [(2, .int (nI (i + 1))), (3, .int (nI (a))), (0, .ref (g 5)), (1, .ref (g 6))] C dL_day_108 rfl (by decide) (by decide) rfl ?_
                refine g_goto 2 C dL_day_111 (by decide) ?_
                refine g_lv [2, 3, 0] [(0, .ref (g 5)), (1, .ref (g 6)), (2, .int (nI (i + 1)))] rfl ?_
                have hx := ih_2 (i + 1) (by omega) (by omega)
                rw [day_yes (by omega) ej] at hx
                exact hx
  refine g_lv [1, 2, 0] [(0, .ref (g 5)), (1, .ref (g 6)), (2, .int (0))] rfl ?_
  exact loop_2 5 0 (by omega) (by omega)
