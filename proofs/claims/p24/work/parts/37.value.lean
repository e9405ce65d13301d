/-! The law's main pigment and worth of a picture. -/
set_option maxRecDepth 100000 in
set_option maxHeartbeats 4000000 in
theorem c_main0 (l : Launch) (D : va_G) (cI cJ : ClassId) (g : Nat → Nat) (σ τ : gS) (q : Nat) (hq : q < 4) (hV : relV σ τ) (h0 : σ.2 4 q = 0) : MC l yL_main wsL_main 1 24 D (tyIJ cI cJ) [.int (nI (q)), .ref (g 1), .ref (g 3), .ref (g 4), .ref (g 5)] (wL cI g τ) (wL cI g τ) none (some (.int (-1))) 0 := by
  refine MC.ofG (cc := cL_main) (maxL := 10) (ret := (some .int)) [(0, .int (nI (q))), (1, .ref (g 1)), (2, .ref (g 3)), (3, .ref (g 4)), (4, .ref (g 5))] (by decide) rfl (Nat.le_of_ble_eq_true rfl) rfl ?_
  intro p e s m args below meth c C hr hout
  refine g_iconst (-1) C dL_main_0 (by decide) ?_
  refine g_istore [(5, .int ((-1))), (0, .int (nI (q))), (1, .ref (g 1)), (2, .ref (g 3)), (3, .ref (g 4)), (4, .ref (g 5))] C dL_main_1 (by decide) rfl ?_
  refine g_iconst 0 C dL_main_3 (by decide) ?_
  refine g_istore [(6, .int (0)), (5, .int ((-1))), (0, .int (nI (q))), (1, .ref (g 1)), (2, .ref (g 3)), (3, .ref (g 4)), (4, .ref (g 5))] C dL_main_4 (by decide) rfl ?_
  refine g_iconst 0 C dL_main_6 (by decide) ?_
  refine g_istore [(7, .int (0)), (6, .int (0)), (5, .int ((-1))), (0, .int (nI (q))), (1, .ref (g 1)), (2, .ref (g 3)), (3, .ref (g 4)), (4, .ref (g 5))] C dL_main_7 (by decide) rfl ?_
  refine g_iload 0 C rfl dL_main_9 ?_
  refine g_iconst 4 C dL_main_11 (by decide) ?_
  refine g_icmp_ge 122 C dL_main_12 (by decide) (fun q => absurd q (by decide)) (fun _ => ?_)
  refine g_aload 7 C rfl dL_main_15 ?_
  refine g_bipush 7 C dL_main_17 (by decide) ?_
  refine g_iload_n 3 C rfl dL_main_19 rfl ?_
  refine g_imulN 7 q C dL_main_20 ?_
  refine g_ialdN (cA := cI) (n := 28) (a := g 5) (f := τ.2 5) (7 * q) 5 0 C rfl rfl (by omega) (by decide) dL_main_21 ?_
  refine g_is (0) ((hV.2.2.1 q hq).trans h0) ?_
  refine g_if_le 122 C dL_main_22 (by decide) (fun _ => ?_) (fun q => absurd q (by decide))
  refine g_iload 2 C rfl dL_main_122 ?_
  exact g_iret C hr rfl dL_main_124 (Nat.zero_le _) (Nat.zero_le _) rfl rfl rfl
set_option maxRecDepth 100000 in
set_option maxHeartbeats 4000000 in
theorem c_main1 (l : Launch) (D : va_G) (cI cJ : ClassId) (g : Nat → Nat) (σ τ : gS) (q : Nat) (hq : q < 4) (hV : relV σ τ) (jl : Nat) (hj : jl + 1 ≤ 3) (ej : σ.2 4 q = nI (jl + 1)) : MC l yL_main wsL_main 1 24 D (tyIJ cI cJ) [.int (nI (q)), .ref (g 1), .ref (g 3), .ref (g 4), .ref (g 5)] (wL cI g τ) (wL cI g τ) none (some (.int (mpr (fun k => gopN σ (topR σ q) (nI k) 6) 4).1)) 0 := by
  refine MC.ofG (cc := cL_main) (maxL := 10) (ret := (some .int)) [(0, .int (nI (q))), (1, .ref (g 1)), (2, .ref (g 3)), (3, .ref (g 4)), (4, .ref (g 5))] (by decide) rfl (Nat.le_of_ble_eq_true rfl) rfl ?_
  intro p e s m args below meth c C hr hout
  refine g_iconst (-1) C dL_main_0 (by decide) ?_
  refine g_istore [(5, .int ((-1))), (0, .int (nI (q))), (1, .ref (g 1)), (2, .ref (g 3)), (3, .ref (g 4)), (4, .ref (g 5))] C dL_main_1 (by decide) rfl ?_
  refine g_iconst 0 C dL_main_3 (by decide) ?_
  refine g_istore [(6, .int (0)), (5, .int ((-1))), (0, .int (nI (q))), (1, .ref (g 1)), (2, .ref (g 3)), (3, .ref (g 4)), (4, .ref (g 5))] C dL_main_4 (by decide) rfl ?_
  refine g_iconst 0 C dL_main_6 (by decide) ?_
  refine g_istore [(7, .int (0)), (6, .int (0)), (5, .int ((-1))), (0, .int (nI (q))), (1, .ref (g 1)), (2, .ref (g 3)), (3, .ref (g 4)), (4, .ref (g 5))] C dL_main_7 (by decide) rfl ?_
  have loop_9 : ∀ (fu : Nat) (i : Nat), i ≤ 4 → 5 ≤ i + fu → G p l e ({ frames := 1, cells := 0, slots := 6 * 0, locals := 24 } : Room) s m args below meth c D (va_A (wL cI g τ) s.heap.size) 10 0 0 (gQ below D (wL cI g τ) (wL cI g τ) none (some (.int (mpr (fun k => gopN σ (topR σ q) (nI k) 6) 4).1)) 0 args s) (wL cI g τ) [(0, .int (nI (q))), (1, .ref (g 1)), (2, .ref (g 3)), (3, .ref (g 4)), (4, .ref (g 5)), (5, .int ((mpr (fun k => gopN σ (topR σ q) (nI k) 6) i).1)), (6, .int ((mpr (fun k => gopN σ (topR σ q) (nI k) 6) i).2)), (7, .int (nI (i)))] 9 [] := by
    intro fu
    induction fu with
    | zero => intro i hi hf; exact absurd True.intro (by omega)
    | succ fu ih_9 =>
      intro i hi hf
      refine g_iload 7 C rfl dL_main_9 ?_
      refine g_iconst 4 C dL_main_11 (by decide) ?_
      refine g_icmp_ge 122 C dL_main_12 (by decide) (fun c_12_1 => ?_) (fun c_12_1 => ?_)
      ·
        have d_12_1 : 4 ≤ i := (nI_leI (a := 4) (b := i) (by omega) (by omega)).mp c_12_1
        refine g_iload 5 C rfl dL_main_122 ?_
        exact g_iret C hr rfl dL_main_124 (Nat.zero_le _) (Nat.zero_le _) rfl (by rw [show i = 4 by omega]) rfl
      ·
        have d_12_1 : ¬ 4 ≤ i := fun zz => c_12_1 ((nI_leI (a := 4) (b := i) (by omega) (by omega)).mpr zz)
        refine g_aload 4 C rfl dL_main_15 ?_
        refine g_bipush 7 C dL_main_17 (by decide) ?_
        refine g_iload_n 0 C rfl dL_main_19 rfl ?_
        refine g_imulN 7 q C dL_main_20 ?_
        refine g_ialdN (cA := cI) (n := 28) (a := g 5) (f := τ.2 5) (7 * q) 5 0 C rfl rfl (by omega) (by decide) dL_main_21 ?_
        refine g_is (nI (jl + 1)) ((hV.2.2.1 q hq).trans ej) ?_
        refine g_if_le 122 C dL_main_22 (by decide) (fun q => absurd q (nI_np (by omega))) (fun _ => ?_)
        refine g_iconst 0 C dL_main_25 (by decide) ?_
        refine g_istore [(8, .int (0)), (0, .int (nI (q))), (1, .ref (g 1)), (2, .ref (g 3)), (3, .ref (g 4)), (4, .ref (g 5)), (5, .int ((mpr (fun k => gopN σ (topR σ q) (nI k) 6) i).1)), (6, .int ((mpr (fun k => gopN σ (topR σ q) (nI k) 6) i).2)), (7, .int (nI (i)))] C dL_main_26 (by decide) rfl ?_
        refine g_iconst 0 C dL_main_28 (by decide) ?_
        refine g_istore [(9, .int (0)), (8, .int (0)), (0, .int (nI (q))), (1, .ref (g 1)), (2, .ref (g 3)), (3, .ref (g 4)), (4, .ref (g 5)), (5, .int ((mpr (fun k => gopN σ (topR σ q) (nI k) 6) i).1)), (6, .int ((mpr (fun k => gopN σ (topR σ q) (nI k) 6) i).2)), (7, .int (nI (i)))] C dL_main_29 (by decide) rfl ?_
        have loop_31 : ∀ (fu : Nat) (t : Nat), t ≤ 6 → 7 ≤ t + fu → G p l e ({ frames := 1, cells := 0, slots := 6 * 0, locals := 24 } : Room) s m args below meth c D (va_A (wL cI g τ) s.heap.size) 10 0 0 (gQ below D (wL cI g τ) (wL cI g τ) none (some (.int (mpr (fun k => gopN σ (topR σ q) (nI k) 6) 4).1)) 0 args s) (wL cI g τ) [(0, .int (nI (q))), (1, .ref (g 1)), (2, .ref (g 3)), (3, .ref (g 4)), (4, .ref (g 5)), (5, .int ((mpr (fun k => gopN σ (topR σ q) (nI k) 6) i).1)), (6, .int ((mpr (fun k => gopN σ (topR σ q) (nI k) 6) i).2)), (7, .int (nI (i))), (8, .int (gopN σ (topR σ q) (nI i) t)), (9, .int (nI (t)))] 31 [] := by
          intro fu
          induction fu with
          | zero => intro t ht hf2; exact absurd True.intro (by omega)
          | succ fu ih_31 =>
            intro t ht hf2
            refine g_iload 9 C rfl dL_main_31 ?_
            refine g_bipush 6 C dL_main_33 (by decide) ?_
            refine g_icmp_ge 84 C dL_main_35 (by decide) (fun c_35_2 => ?_) (fun c_35_2 => ?_)
            ·
              have d_35_2 : 6 ≤ t := (nI_leI (a := 6) (b := t) (by omega) (by omega)).mp c_35_2
              obtain rfl : t = 6 := by omega
              refine g_iload 8 C rfl dL_main_84 ?_
              refine g_iload 6 C rfl dL_main_86 ?_
              refine g_icmp_le 96 C dL_main_88 (by decide) (fun c_88_3 => ?_) (fun c_88_3 => ?_)
              ·
                refine g_iload 5 C rfl dL_main_96 ?_
                refine g_is (((mpr (fun k => gopN σ (topR σ q) (nI k) 6) (i + 1)).1)) (by show _ = (if gopN σ (topR σ q) (nI i) 6 ≤ (mpr (fun k => gopN σ (topR σ q) (nI k) 6) i).2 then mpr (fun k => gopN σ (topR σ q) (nI k) 6) i else (nI i, gopN σ (topR σ q) (nI i) 6)).1; rw [if_pos c_88_3]) ?_
                refine g_istore [(5, .int ((mpr (fun k => gopN σ (topR σ q) (nI k) 6) (i + 1)).1)), (0, .int (nI (q))), (1, .ref (g 1)), (2, .ref (g 3)), (3, .ref (g 4)), (4, .ref (g 5)), (6, .int ((mpr (fun k => gopN σ (topR σ q) (nI k) 6) i).2)), (7, .int (nI (i))), (8, .int (gopN σ (topR σ q) (nI i) 6)), (9, .int (nI (6)))] C dL_main_98 (by decide) rfl ?_
                refine g_iload 8 C rfl dL_main_100 ?_
                refine g_iload 6 C rfl dL_main_102 ?_
                refine g_icmp_le 112 C dL_main_104 (by decide) (fun _ => ?_) (fun q => absurd c_88_3 q)
                refine g_iload 6 C rfl dL_main_112 ?_
                refine g_is (((mpr (fun k => gopN σ (topR σ q) (nI k) 6) (i + 1)).2)) (by show _ = (if gopN σ (topR σ q) (nI i) 6 ≤ (mpr (fun k => gopN σ (topR σ q) (nI k) 6) i).2 then mpr (fun k => gopN σ (topR σ q) (nI k) 6) i else (nI i, gopN σ (topR σ q) (nI i) 6)).2; rw [if_pos c_88_3]) ?_
                refine g_istore [(6, .int ((mpr (fun k => gopN σ (topR σ q) (nI k) 6) (i + 1)).2)), (5, .int ((mpr (fun k => gopN σ (topR σ q) (nI k) 6) (i + 1)).1)), (0, .int (nI (q))), (1, .ref (g 1)), (2, .ref (g 3)), (3, .ref (g 4)), (4, .ref (g 5)), (7, .int (nI (i))), (8, .int (gopN σ (topR σ q) (nI i) 6)), (9, .int (nI (6)))] C dL_main_114 (by decide) rfl ?_
                refine g_iincN 7 i 1 [(7, .int (nI (i + 1))), (6, .int ((mpr (fun k => gopN σ (topR σ q) (nI k) 6) (i + 1)).2)), (5, .int ((mpr (fun k => gopN σ (topR σ q) (nI k) 6) (i + 1)).1)), (0, .int (nI (q))), (1, .ref (g 1)), (2, .ref (g 3)), (3, .ref (g 4)), (4, .ref (g 5)), (8, .int (gopN σ (topR σ q) (nI i) 6)), (9, .int (nI (6)))] C dL_main_116 rfl (by decide) (by decide) rfl ?_
                refine g_goto 9 C dL_main_119 (by decide) ?_
                refine g_lv [3, 4, 5, 6, 7, 2, 1, 0] [(0, .int (nI (q))), (1, .ref (g 1)), (2, .ref (g 3)), (3, .ref (g 4)), (4, .ref (g 5)), (5, .int ((mpr (fun k => gopN σ (topR σ q) (nI k) 6) (i + 1)).1)), (6, .int ((mpr (fun k => gopN σ (topR σ q) (nI k) 6) (i + 1)).2)), (7, .int (nI (i + 1)))] rfl ?_
                exact ih_9 (i + 1) (by omega) (by omega)
              ·
                refine g_iload 7 C rfl dL_main_91 ?_
                refine g_goto 98 C dL_main_93 (by decide) ?_
                refine g_is (((mpr (fun k => gopN σ (topR σ q) (nI k) 6) (i + 1)).1)) (by show _ = (if gopN σ (topR σ q) (nI i) 6 ≤ (mpr (fun k => gopN σ (topR σ q) (nI k) 6) i).2 then mpr (fun k => gopN σ (topR σ q) (nI k) 6) i else (nI i, gopN σ (topR σ q) (nI i) 6)).1; rw [if_neg c_88_3]) ?_
                refine g_istore [(5, .int ((mpr (fun k => gopN σ (topR σ q) (nI k) 6) (i + 1)).1)), (0, .int (nI (q))), (1, .ref (g 1)), (2, .ref (g 3)), (3, .ref (g 4)), (4, .ref (g 5)), (6, .int ((mpr (fun k => gopN σ (topR σ q) (nI k) 6) i).2)), (7, .int (nI (i))), (8, .int (gopN σ (topR σ q) (nI i) 6)), (9, .int (nI (6)))] C dL_main_98 (by decide) rfl ?_
                refine g_iload 8 C rfl dL_main_100 ?_
                refine g_iload 6 C rfl dL_main_102 ?_
                refine g_icmp_le 112 C dL_main_104 (by decide) (fun q => absurd q c_88_3) (fun _ => ?_)
                refine g_iload 8 C rfl dL_main_107 ?_
                refine g_goto 114 C dL_main_109 (by decide) ?_
                refine g_is (((mpr (fun k => gopN σ (topR σ q) (nI k) 6) (i + 1)).2)) (by show _ = (if gopN σ (topR σ q) (nI i) 6 ≤ (mpr (fun k => gopN σ (topR σ q) (nI k) 6) i).2 then mpr (fun k => gopN σ (topR σ q) (nI k) 6) i else (nI i, gopN σ (topR σ q) (nI i) 6)).2; rw [if_neg c_88_3]) ?_
                refine g_istore [(6, .int ((mpr (fun k => gopN σ (topR σ q) (nI k) 6) (i + 1)).2)), (5, .int ((mpr (fun k => gopN σ (topR σ q) (nI k) 6) (i + 1)).1)), (0, .int (nI (q))), (1, .ref (g 1)), (2, .ref (g 3)), (3, .ref (g 4)), (4, .ref (g 5)), (7, .int (nI (i))), (8, .int (gopN σ (topR σ q) (nI i) 6)), (9, .int (nI (6)))] C dL_main_114 (by decide) rfl ?_
                refine g_iincN 7 i 1 [(7, .int (nI (i + 1))), (6, .int ((mpr (fun k => gopN σ (topR σ q) (nI k) 6) (i + 1)).2)), (5, .int ((mpr (fun k => gopN σ (topR σ q) (nI k) 6) (i + 1)).1)), (0, .int (nI (q))), (1, .ref (g 1)), (2, .ref (g 3)), (3, .ref (g 4)), (4, .ref (g 5)), (8, .int (gopN σ (topR σ q) (nI i) 6)), (9, .int (nI (6)))] C dL_main_116 rfl (by decide) (by decide) rfl ?_
                refine g_goto 9 C dL_main_119 (by decide) ?_
                refine g_lv [3, 4, 5, 6, 7, 2, 1, 0] [(0, .int (nI (q))), (1, .ref (g 1)), (2, .ref (g 3)), (3, .ref (g 4)), (4, .ref (g 5)), (5, .int ((mpr (fun k => gopN σ (topR σ q) (nI k) 6) (i + 1)).1)), (6, .int ((mpr (fun k => gopN σ (topR σ q) (nI k) 6) (i + 1)).2)), (7, .int (nI (i + 1)))] rfl ?_
                exact ih_9 (i + 1) (by omega) (by omega)
            ·
              have d_35_2 : ¬ 6 ≤ t := fun zz => c_35_2 ((nI_leI (a := 6) (b := t) (by omega) (by omega)).mpr zz)
              refine g_iload 8 C rfl dL_main_38 ?_
              refine g_aload_n 1 C rfl dL_main_40 rfl ?_
              refine g_iconst 3 C dL_main_41 (by decide) ?_
              refine g_iload 9 C rfl dL_main_42 ?_
              refine g_imulN 3 t C dL_main_44 ?_
              refine g_ialdN (cA := cI) (n := 18) (a := g 1) (f := τ.2 1) (3 * t) 1 0 C rfl rfl (by omega) (by decide) dL_main_45 ?_
              refine g_is ((σ.2 1 t)) (hV.1 t (by omega)) ?_
              refine g_iload 7 C rfl dL_main_46 ?_
              refine g_icmp_ne 74 C dL_main_48 (by decide) (fun c_48_4 => ?_) (fun c_48_4 => ?_)
              ·
                refine g_iconst 0 C dL_main_74 (by decide) ?_
                refine g_iadd C dL_main_75 ?_
                refine g_is ((gopN σ (topR σ q) (nI i) (t + 1))) (by show _ = (if σ.2 1 t = nI i then gopN σ (topR σ q) (nI i) t + σ.2 3 (topR σ q * 12 + t) else gopN σ (topR σ q) (nI i) t); rw [if_neg c_48_4, Int32.add_zero]) ?_
                refine g_istore [(8, .int (gopN σ (topR σ q) (nI i) (t + 1))), (0, .int (nI (q))), (1, .ref (g 1)), (2, .ref (g 3)), (3, .ref (g 4)), (4, .ref (g 5)), (5, .int ((mpr (fun k => gopN σ (topR σ q) (nI k) 6) i).1)), (6, .int ((mpr (fun k => gopN σ (topR σ q) (nI k) 6) i).2)), (7, .int (nI (i))), (9, .int (nI (t)))] C dL_main_76 (by decide) rfl ?_
                refine g_iincN 9 t 1 [(9, .int (nI (t + 1))), (8, .int (gopN σ (topR σ q) (nI i) (t + 1))), (0, .int (nI (q))), (1, .ref (g 1)), (2, .ref (g 3)), (3, .ref (g 4)), (4, .ref (g 5)), (5, .int ((mpr (fun k => gopN σ (topR σ q) (nI k) 6) i).1)), (6, .int ((mpr (fun k => gopN σ (topR σ q) (nI k) 6) i).2)), (7, .int (nI (i)))] C dL_main_78 rfl (by decide) (by decide) rfl ?_
                refine g_goto 31 C dL_main_81 (by decide) ?_
                refine g_lv [2, 3, 4, 5, 6, 7, 8, 9, 1, 0] [(0, .int (nI (q))), (1, .ref (g 1)), (2, .ref (g 3)), (3, .ref (g 4)), (4, .ref (g 5)), (5, .int ((mpr (fun k => gopN σ (topR σ q) (nI k) 6) i).1)), (6, .int ((mpr (fun k => gopN σ (topR σ q) (nI k) 6) i).2)), (7, .int (nI (i))), (8, .int (gopN σ (topR σ q) (nI i) (t + 1))), (9, .int (nI (t + 1)))] rfl ?_
                exact ih_31 (t + 1) (by omega) (by omega)
              ·
                refine g_iload_n 0 C rfl dL_main_51 rfl ?_
                refine g_aload 4 C rfl dL_main_52 ?_
                refine g_bipush 7 C dL_main_54 (by decide) ?_
                refine g_iload_n 0 C rfl dL_main_56 rfl ?_
                refine g_imulN 7 q C dL_main_57 ?_
                refine g_ialdN (cA := cI) (n := 28) (a := g 5) (f := τ.2 5) (7 * q) 5 0 C rfl rfl (by omega) (by decide) dL_main_58 ?_
                refine g_is (nI (jl + 1)) ((hV.2.2.1 q hq).trans ej) ?_
                refine g_iconst 1 C dL_main_59 (by decide) ?_
                refine g_isubN (jl + 1) 1 C (by omega) dL_main_60 ?_
                refine g_bS (na := 2) (av := [.int (nI (q)), .int (nI ((jl + 1) - 1))]) (c_at l D cI cJ _ q ((jl + 1) - 1)) C gL_main_L_at rfl (by decide +kernel) rfl ⟨Nat.le_of_ble_eq_true rfl, Nat.le_of_ble_eq_true rfl⟩ rfl (Nat.le_of_ble_eq_true rfl) ⟨Nat.zero_le _, Nat.zero_le _⟩ dL_main_61 ?_
                refine g_iload 9 C rfl dL_main_64 ?_
                refine g_aload_n 2 C rfl dL_main_66 rfl ?_
                refine g_aload_n 3 C rfl dL_main_67 rfl ?_
                refine g_bS (na := 4) (av := [.int (nI (3 * q + ((jl + 1) - 1))), .int (nI (t)), .ref (g 3), .ref (g 4)]) (c_grams l D cI cJ g τ (3 * q + ((jl + 1) - 1)) t (by omega) (by omega)) C gL_main_L_grams rfl (by decide +kernel) rfl ⟨Nat.le_of_ble_eq_true rfl, Nat.le_of_ble_eq_true rfl⟩ rfl (Nat.le_of_ble_eq_true rfl) ⟨Nat.zero_le _, Nat.zero_le _⟩ dL_main_68 ?_
                refine g_goto 75 C dL_main_71 (by decide) ?_
                refine g_iadd C dL_main_75 ?_
                refine g_is ((gopN σ (topR σ q) (nI i) (t + 1))) (by show _ = (if σ.2 1 t = nI i then gopN σ (topR σ q) (nI i) t + σ.2 3 (topR σ q * 12 + t) else gopN σ (topR σ q) (nI i) t); rw [if_pos c_48_4, hV.2.1 q (jl + 1 - 1) t hq (by omega) (by omega), topR, ej, cl_nI (by omega)]) ?_
                refine g_istore [(8, .int (gopN σ (topR σ q) (nI i) (t + 1))), (0, .int (nI (q))), (1, .ref (g 1)), (2, .ref (g 3)), (3, .ref (g 4)), (4, .ref (g 5)), (5, .int ((mpr (fun k => gopN σ (topR σ q) (nI k) 6) i).1)), (6, .int ((mpr (fun k => gopN σ (topR σ q) (nI k) 6) i).2)), (7, .int (nI (i))), (9, .int (nI (t)))] C dL_main_76 (by decide) rfl ?_
                refine g_iincN 9 t 1 [(9, .int (nI (t + 1))), (8, .int (gopN σ (topR σ q) (nI i) (t + 1))), (0, .int (nI (q))), (1, .ref (g 1)), (2, .ref (g 3)), (3, .ref (g 4)), (4, .ref (g 5)), (5, .int ((mpr (fun k => gopN σ (topR σ q) (nI k) 6) i).1)), (6, .int ((mpr (fun k => gopN σ (topR σ q) (nI k) 6) i).2)), (7, .int (nI (i)))] C dL_main_78 rfl (by decide) (by decide) rfl ?_
                refine g_goto 31 C dL_main_81 (by decide) ?_
                refine g_lv [2, 3, 4, 5, 6, 7, 8, 9, 1, 0] [(0, .int (nI (q))), (1, .ref (g 1)), (2, .ref (g 3)), (3, .ref (g 4)), (4, .ref (g 5)), (5, .int ((mpr (fun k => gopN σ (topR σ q) (nI k) 6) i).1)), (6, .int ((mpr (fun k => gopN σ (topR σ q) (nI k) 6) i).2)), (7, .int (nI (i))), (8, .int (gopN σ (topR σ q) (nI i) (t + 1))), (9, .int (nI (t + 1)))] rfl ?_
                exact ih_31 (t + 1) (by omega) (by omega)
        refine g_lv [2, 3, 4, 5, 6, 7, 8, 9, 1, 0] [(0, .int (nI (q))), (1, .ref (g 1)), (2, .ref (g 3)), (3, .ref (g 4)), (4, .ref (g 5)), (5, .int ((mpr (fun k => gopN σ (topR σ q) (nI k) 6) i).1)), (6, .int ((mpr (fun k => gopN σ (topR σ q) (nI k) 6) i).2)), (7, .int (nI (i))), (8, .int (0)), (9, .int (0))] rfl ?_
        exact loop_31 7 0 (by omega) (by omega)
  refine g_lv [3, 4, 5, 6, 7, 2, 1, 0] [(0, .int (nI (q))), (1, .ref (g 1)), (2, .ref (g 3)), (3, .ref (g 4)), (4, .ref (g 5)), (5, .int ((-1))), (6, .int (0)), (7, .int (0))] rfl ?_
  exact loop_9 5 0 (by omega) (by omega)
theorem c_main (l : Launch) (D : va_G) (cI cJ : ClassId) (g : Nat → Nat) (σ τ : gS) (q : Nat) (hq : q < 4) (hV : relV σ τ) (hL : ∃ j, j ≤ 3 ∧ σ.2 4 q = nI j) : MC l yL_main wsL_main 1 24 D (tyIJ cI cJ) [.int (nI (q)), .ref (g 1), .ref (g 3), .ref (g 4), .ref (g 5)] (wL cI g τ) (wL cI g τ) none (some (.int (mpo σ 4 6 q))) 0 := by
  obtain ⟨j, hj, ej⟩ := hL
  cases j with
  | zero => rw [mpo, if_pos (show σ.2 4 q = 0 from ej)]; exact c_main0 l D cI cJ g σ τ q hq hV ej
  | succ j => rw [mpo, if_neg (by rw [ej]; exact nI_ne0 (by omega) (by omega))]; exact c_main1 l D cI cJ g σ τ q hq hV j hj ej
set_option maxRecDepth 100000 in
set_option maxHeartbeats 4000000 in
theorem c_value0 (l : Launch) (D : va_G) (cI cJ : ClassId) (g : Nat → Nat) (σ τ : gS) (q : Nat) (hq : q < 4) (hV : relV σ τ) (T : Nat) (hT : T ≤ 600) (hS : smlV σ T) (he9 : mpo σ 4 6 q = -1) : MC l yL_value wsL_value 2 53 D (tyIJ cI cJ) [.int (nI (q)), .ref (g 1), .ref (g 3), .ref (g 4), .ref (g 5)] (wL cI g τ) (wL cI g τ) none (some (.int 0)) 0 := by
  obtain ⟨cr, hcr, ecr⟩ := hS.2.1 q hq
  refine MC.ofG (cc := cL_value) (maxL := 11) (ret := (some .int)) [(0, .int (nI (q))), (1, .ref (g 1)), (2, .ref (g 3)), (3, .ref (g 4)), (4, .ref (g 5))] (by decide) rfl (Nat.le_of_ble_eq_true rfl) rfl ?_
  intro p e s m args below meth c C hr hout
  refine g_iload_n 0 C rfl dL_value_0 rfl ?_
  refine g_aload_n 1 C rfl dL_value_1 rfl ?_
  refine g_aload_n 2 C rfl dL_value_2 rfl ?_
  refine g_aload_n 3 C rfl dL_value_3 rfl ?_
  refine g_aload 4 C rfl dL_value_4 ?_
  refine g_bS (na := 5) (av := [.int (nI (q)), .ref (g 1), .ref (g 3), .ref (g 4), .ref (g 5)]) (c_main l D cI cJ g σ τ q (by omega) hV (hS.1 q (by omega))) C gL_value_L_main rfl (by decide +kernel) rfl ⟨Nat.le_of_ble_eq_true rfl, Nat.le_of_ble_eq_true rfl⟩ rfl (Nat.le_of_ble_eq_true rfl) ⟨Nat.zero_le _, Nat.zero_le _⟩ dL_value_6 ?_
  refine g_is (((-1))) he9 ?_
  refine g_istore [(5, .int ((-1))), (0, .int (nI (q))), (1, .ref (g 1)), (2, .ref (g 3)), (3, .ref (g 4)), (4, .ref (g 5))] C dL_value_9 (by decide) rfl ?_
  refine g_iconst 0 C dL_value_11 (by decide) ?_
  refine g_istore [(6, .int (0)), (5, .int ((-1))), (0, .int (nI (q))), (1, .ref (g 1)), (2, .ref (g 3)), (3, .ref (g 4)), (4, .ref (g 5))] C dL_value_12 (by decide) rfl ?_
  refine g_iconst 0 C dL_value_14 (by decide) ?_
  refine g_istore [(7, .int (0)), (6, .int (0)), (5, .int ((-1))), (0, .int (nI (q))), (1, .ref (g 1)), (2, .ref (g 3)), (3, .ref (g 4)), (4, .ref (g 5))] C dL_value_15 (by decide) rfl ?_
  refine g_iconst 0 C dL_value_17 (by decide) ?_
  refine g_istore [(8, .int (0)), (7, .int (0)), (6, .int (0)), (5, .int ((-1))), (0, .int (nI (q))), (1, .ref (g 1)), (2, .ref (g 3)), (3, .ref (g 4)), (4, .ref (g 5))] C dL_value_18 (by decide) rfl ?_
  have loop_20 : ∀ (fu : Nat) (i : Nat), i ≤ 4 → 5 ≤ i + fu → G p l e ({ frames := 2, cells := 0, slots := 6 * 0, locals := 53 } : Room) s m args below meth c D (va_A (wL cI g τ) s.heap.size) 11 0 0 (gQ below D (wL cI g τ) (wL cI g τ) none (some (.int 0)) 0 args s) (wL cI g τ) [(0, .int (nI (q))), (1, .ref (g 1)), (2, .ref (g 3)), (3, .ref (g 4)), (4, .ref (g 5)), (5, .int ((-1))), (6, .int (0)), (7, .int (0)), (8, .int (nI (i)))] 20 [] := by
    intro fu
    induction fu with
    | zero => intro i hi hf; exact absurd True.intro (by omega)
    | succ fu ih_20 =>
      intro i hi hf
      refine g_iload 8 C rfl dL_value_20 ?_
      refine g_iconst 4 C dL_value_22 (by decide) ?_
      refine g_icmp_ge 111 C dL_value_23 (by decide) (fun c_23_1 => ?_) (fun c_23_1 => ?_)
      ·
        have d_23_1 : 4 ≤ i := (nI_leI (a := 4) (b := i) (by omega) (by omega)).mp c_23_1
        refine g_iload 7 C rfl dL_value_111 ?_
        refine g_if_ne 120 C dL_value_113 (by decide) (fun q => absurd q (by decide)) (fun _ => ?_)
        refine g_iconst 0 C dL_value_116 (by decide) ?_
        refine g_goto 125 C dL_value_117 (by decide) ?_
        refine g_istore [(8, .int (0)), (0, .int (nI (q))), (1, .ref (g 1)), (2, .ref (g 3)), (3, .ref (g 4)), (4, .ref (g 5)), (5, .int ((-1))), (6, .int (0)), (7, .int (0))] C dL_value_125 (by decide) rfl ?_
        refine g_iload 0 C rfl dL_value_127 ?_
        refine g_bipush 20 C dL_value_129 (by decide) ?_
        refine g_idiv C (by decide) dL_value_131 ?_
        refine g_is (0) (by decide) ?_
        refine g_istore [(9, .int (0)), (8, .int (0)), (0, .int (nI (q))), (1, .ref (g 1)), (2, .ref (g 3)), (3, .ref (g 4)), (4, .ref (g 5)), (5, .int ((-1))), (6, .int (0)), (7, .int (0))] C dL_value_132 (by decide) rfl ?_
        refine g_iconst 0 C dL_value_134 (by decide) ?_
        refine g_istore [(10, .int (0)), (9, .int (0)), (8, .int (0)), (0, .int (nI (q))), (1, .ref (g 1)), (2, .ref (g 3)), (3, .ref (g 4)), (4, .ref (g 5)), (5, .int ((-1))), (6, .int (0)), (7, .int (0))] C dL_value_135 (by decide) rfl ?_
        refine g_iload 0 C rfl dL_value_137 ?_
        refine g_aload 7 C rfl dL_value_139 ?_
        refine g_bipush 7 C dL_value_141 (by decide) ?_
        refine g_iload_n 3 C rfl dL_value_143 rfl ?_
        refine g_imulN 7 q C dL_value_144 ?_
        refine g_iconst 1 C dL_value_145 (by decide) ?_
        refine g_iaddN (7 * q) 1 C dL_value_146 ?_
        refine g_ialdN (cA := cI) (n := 28) (a := g 5) (f := τ.2 5) ((7 * q) + 1) 5 0 C rfl rfl (by omega) (by decide) dL_value_147 ?_
        refine g_is (nI (cr)) ((hV.2.2.2.1 q hq).trans ecr) ?_
        refine g_icmp_ge 169 C dL_value_148 (by decide) (fun c_148_2 => ?_) (fun c_148_2 => ?_)
        ·
          have d_148_2 : cr ≤ 0 := (nI_leI (a := cr) (b := 0) (by omega) (by omega)).mp c_148_2
          refine g_iload 2 C rfl dL_value_169 ?_
          refine g_if_ge 178 C dL_value_171 (by decide) (fun _ => ?_) (fun q => absurd q (by decide))
          refine g_iload 2 C rfl dL_value_178 ?_
          exact g_iret C hr rfl dL_value_180 (Nat.zero_le _) (Nat.zero_le _) rfl rfl rfl
        ·
          have d_148_2 : ¬ cr ≤ 0 := fun zz => c_148_2 ((nI_leI (a := cr) (b := 0) (by omega) (by omega)).mpr zz)
          refine g_iload 2 C rfl dL_value_151 ?_
          refine g_if_le 169 C dL_value_153 (by decide) (fun _ => ?_) (fun q => absurd q (by decide))
          refine g_iload 2 C rfl dL_value_169 ?_
          refine g_if_ge 178 C dL_value_171 (by decide) (fun _ => ?_) (fun q => absurd q (by decide))
          refine g_iload 2 C rfl dL_value_178 ?_
          exact g_iret C hr rfl dL_value_180 (Nat.zero_le _) (Nat.zero_le _) rfl rfl rfl
      ·
        have d_23_1 : ¬ 4 ≤ i := fun zz => c_23_1 ((nI_leI (a := 4) (b := i) (by omega) (by omega)).mpr zz)
        refine g_iload 5 C rfl dL_value_26 ?_
        refine g_if_lt 63 C dL_value_28 (by decide) (fun _ => ?_) (fun q => absurd q (by decide))
        refine g_iconst 0 C dL_value_63 (by decide) ?_
        refine g_istore [(9, .int (0)), (0, .int (nI (q))), (1, .ref (g 1)), (2, .ref (g 3)), (3, .ref (g 4)), (4, .ref (g 5)), (5, .int ((-1))), (6, .int (0)), (7, .int (0)), (8, .int (nI (i)))] C dL_value_64 (by decide) rfl ?_
        refine g_iload 7 C rfl dL_value_66 ?_
        refine g_iload 0 C rfl dL_value_68 ?_
        refine g_if_eq 86 C dL_value_70 (by decide) (fun _ => ?_) (fun q => absurd q (by decide))
        refine g_iconst 0 C dL_value_86 (by decide) ?_
        refine g_iadd C dL_value_87 ?_
        refine g_is 0 (by decide) ?_
        refine g_istore [(6, .int (0)), (9, .int (0)), (0, .int (nI (q))), (1, .ref (g 1)), (2, .ref (g 3)), (3, .ref (g 4)), (4, .ref (g 5)), (5, .int ((-1))), (7, .int (0)), (8, .int (nI (i)))] C dL_value_88 (by decide) rfl ?_
        refine g_iload 8 C rfl dL_value_90 ?_
        refine g_iload 1 C rfl dL_value_92 ?_
        refine g_if_eq 101 C dL_value_94 (by decide) (fun _ => ?_) (fun q => absurd q (by decide))
        refine g_iconst 0 C dL_value_101 (by decide) ?_
        refine g_iadd C dL_value_102 ?_
        refine g_is 0 (by decide) ?_
        refine g_istore [(7, .int (0)), (6, .int (0)), (9, .int (0)), (0, .int (nI (q))), (1, .ref (g 1)), (2, .ref (g 3)), (3, .ref (g 4)), (4, .ref (g 5)), (5, .int ((-1))), (8, .int (nI (i)))] C dL_value_103 (by decide) rfl ?_
        refine g_iincN 9 i 1 [(8, .int (nI (i + 1))), (7, .int (0)), (6, .int (0)), (9, .int (0)), (0, .int (nI (q))), (1, .ref (g 1)), (2, .ref (g 3)), (3, .ref (g 4)), (4, .ref (g 5)), (5, .int ((-1)))] C dL_value_105 rfl (by decide) (by decide) rfl ?_
        refine g_goto 20 C dL_value_108 (by decide) ?_
        refine g_lv [4, 5, 6, 7, 8, 9, 2, 1, 0] [(0, .int (nI (q))), (1, .ref (g 1)), (2, .ref (g 3)), (3, .ref (g 4)), (4, .ref (g 5)), (5, .int ((-1))), (6, .int (0)), (7, .int (0)), (8, .int (nI (i + 1)))] rfl ?_
        exact ih_20 (i + 1) (by omega) (by omega)
  refine g_lv [4, 5, 6, 7, 8, 3, 2, 1, 0] [(0, .int (nI (q))), (1, .ref (g 1)), (2, .ref (g 3)), (3, .ref (g 4)), (4, .ref (g 5)), (5, .int ((-1))), (6, .int (0)), (7, .int (0)), (8, .int (0))] rfl ?_
  exact loop_20 5 0 (by omega) (by omega)
set_option maxRecDepth 100000 in
set_option maxHeartbeats 4000000 in
theorem c_value1 (l : Launch) (D : va_G) (cI cJ : ClassId) (g : Nat → Nat) (σ τ : gS) (q : Nat) (hq : q < 4) (hV : relV σ τ) (T : Nat) (hT : T ≤ 600) (hS : smlV σ T) (b : Nat) (hb : b < 4) (he9 : mpo σ 4 6 q = nI b) : MC l yL_value wsL_value 2 53 D (tyIJ cI cJ) [.int (nI (q)), .ref (g 1), .ref (g 3), .ref (g 4), .ref (g 5)] (wL cI g τ) (wL cI g τ) none (some (.int (valA σ 4 6 4 q))) 0 := by
  obtain ⟨cr, hcr, ecr⟩ := hS.2.1 q hq
  refine MC.ofG (cc := cL_value) (maxL := 11) (ret := (some .int)) [(0, .int (nI (q))), (1, .ref (g 1)), (2, .ref (g 3)), (3, .ref (g 4)), (4, .ref (g 5))] (by decide) rfl (Nat.le_of_ble_eq_true rfl) rfl ?_
  intro p e s m args below meth c C hr hout
  refine g_iload_n 0 C rfl dL_value_0 rfl ?_
  refine g_aload_n 1 C rfl dL_value_1 rfl ?_
  refine g_aload_n 2 C rfl dL_value_2 rfl ?_
  refine g_aload_n 3 C rfl dL_value_3 rfl ?_
  refine g_aload 4 C rfl dL_value_4 ?_
  refine g_bS (na := 5) (av := [.int (nI (q)), .ref (g 1), .ref (g 3), .ref (g 4), .ref (g 5)]) (c_main l D cI cJ g σ τ q (by omega) hV (hS.1 q (by omega))) C gL_value_L_main rfl (by decide +kernel) rfl ⟨Nat.le_of_ble_eq_true rfl, Nat.le_of_ble_eq_true rfl⟩ rfl (Nat.le_of_ble_eq_true rfl) ⟨Nat.zero_le _, Nat.zero_le _⟩ dL_value_6 ?_
  refine g_is (nI (b)) he9 ?_
  refine g_istore [(5, .int (nI (b))), (0, .int (nI (q))), (1, .ref (g 1)), (2, .ref (g 3)), (3, .ref (g 4)), (4, .ref (g 5))] C dL_value_9 (by decide) rfl ?_
  refine g_iconst 0 C dL_value_11 (by decide) ?_
  refine g_istore [(6, .int (0)), (5, .int (nI (b))), (0, .int (nI (q))), (1, .ref (g 1)), (2, .ref (g 3)), (3, .ref (g 4)), (4, .ref (g 5))] C dL_value_12 (by decide) rfl ?_
  refine g_iconst 0 C dL_value_14 (by decide) ?_
  refine g_istore [(7, .int (0)), (6, .int (0)), (5, .int (nI (b))), (0, .int (nI (q))), (1, .ref (g 1)), (2, .ref (g 3)), (3, .ref (g 4)), (4, .ref (g 5))] C dL_value_15 (by decide) rfl ?_
  refine g_iconst 0 C dL_value_17 (by decide) ?_
  refine g_istore [(8, .int (0)), (7, .int (0)), (6, .int (0)), (5, .int (nI (b))), (0, .int (nI (q))), (1, .ref (g 1)), (2, .ref (g 3)), (3, .ref (g 4)), (4, .ref (g 5))] C dL_value_18 (by decide) rfl ?_
  have loop_20 : ∀ (fu : Nat) (i : Nat), i ≤ 4 → 5 ≤ i + fu → G p l e ({ frames := 2, cells := 0, slots := 6 * 0, locals := 53 } : Room) s m args below meth c D (va_A (wL cI g τ) s.heap.size) 11 0 0 (gQ below D (wL cI g τ) (wL cI g τ) none (some (.int (valA σ 4 6 4 q))) 0 args s) (wL cI g τ) [(0, .int (nI (q))), (1, .ref (g 1)), (2, .ref (g 3)), (3, .ref (g 4)), (4, .ref (g 5)), (5, .int (nI (b))), (6, .int ((alk σ 4 6 (nI b) i).1)), (7, .int ((alk σ 4 6 (nI b) i).2)), (8, .int (nI (i)))] 20 [] := by
    intro fu
    induction fu with
    | zero => intro i hi hf; exact absurd True.intro (by omega)
    | succ fu ih_20 =>
      intro i hi hf
      refine g_iload 8 C rfl dL_value_20 ?_
      refine g_iconst 4 C dL_value_22 (by decide) ?_
      refine g_icmp_ge 111 C dL_value_23 (by decide) (fun c_23_1 => ?_) (fun c_23_1 => ?_)
      ·
        have d_23_1 : 4 ≤ i := (nI_leI (a := 4) (b := i) (by omega) (by omega)).mp c_23_1
        obtain rfl : i = 4 := by omega
        obtain ⟨S9, n9, eS, en, hS9, hn9⟩ := alk_nat hS (nI b) 4 (Nat.le_refl 4)
        rw [eS, en]
        refine g_iload 7 C rfl dL_value_111 ?_
        refine g_if_ne 120 C dL_value_113 (by decide) (fun c_113_2 => ?_) (fun c_113_2 => ?_)
        ·
          have d_113_2 : ¬ n9 = 0 := fun zz => c_113_2 ((nI_eq (a := n9) (b := 0) (by omega) (by omega)).mpr zz)
          refine g_iload 6 C rfl dL_value_120 ?_
          refine g_iload 7 C rfl dL_value_122 ?_
          refine g_idiv C c_113_2 dL_value_124 ?_
          have h0n : 0 < n9 := Nat.pos_of_ne_zero (fun z => c_113_2 (by rw [z]; rfl))
          have hw9 : S9 / n9 ≤ 9000 := Nat.div_le_of_le_mul (by rw [Nat.mul_comm]; exact hS9)
          have hav : avgA σ 4 6 4 q = nI (S9 / n9) := by rw [avgA, he9, if_neg (fun z => absurd z (nI_nm1 (by omega))), eS, en, if_neg c_113_2, pk_div (by omega) h0n (by omega)]
          refine g_is (nI (S9 / n9)) (pk_div (by omega) h0n (by omega)) ?_
          refine g_istore [(8, .int (nI (S9 / n9))), (0, .int (nI (q))), (1, .ref (g 1)), (2, .ref (g 3)), (3, .ref (g 4)), (4, .ref (g 5)), (5, .int (nI (b))), (6, .int (nI (S9))), (7, .int (nI (n9)))] C dL_value_125 (by decide) rfl ?_
          refine g_iload 0 C rfl dL_value_127 ?_
          refine g_bipush 20 C dL_value_129 (by decide) ?_
          refine g_idiv C (by decide) dL_value_131 ?_
          refine g_is (nI (S9 / n9 / 20)) (pk_div (a := S9 / n9) (d := 20) (by omega) (by decide) (by decide)) ?_
          refine g_istore [(9, .int (nI (S9 / n9 / 20))), (8, .int (nI (S9 / n9))), (0, .int (nI (q))), (1, .ref (g 1)), (2, .ref (g 3)), (3, .ref (g 4)), (4, .ref (g 5)), (5, .int (nI (b))), (6, .int (nI (S9))), (7, .int (nI (n9)))] C dL_value_132 (by decide) rfl ?_
          refine g_iconst 0 C dL_value_134 (by decide) ?_
          refine g_istore [(10, .int (0)), (9, .int (nI (S9 / n9 / 20))), (8, .int (nI (S9 / n9))), (0, .int (nI (q))), (1, .ref (g 1)), (2, .ref (g 3)), (3, .ref (g 4)), (4, .ref (g 5)), (5, .int (nI (b))), (6, .int (nI (S9))), (7, .int (nI (n9)))] C dL_value_135 (by decide) rfl ?_
          have loop_137 : ∀ (fu : Nat) (k : Nat), k ≤ cr → cr + 1 ≤ k + fu → G p l e ({ frames := 2, cells := 0, slots := 6 * 0, locals := 53 } : Room) s m args below meth c D (va_A (wL cI g τ) s.heap.size) 11 0 0 (gQ below D (wL cI g τ) (wL cI g τ) none (some (.int (valA σ 4 6 4 q))) 0 args s) (wL cI g τ) [(0, .int (nI (q))), (1, .ref (g 1)), (2, .ref (g 3)), (3, .ref (g 4)), (4, .ref (g 5)), (8, .int (nI (S9 / n9) - nI (k * ((S9 / n9) / 20)))), (9, .int (nI ((S9 / n9) / 20))), (10, .int (nI (k)))] 137 [] := by
            intro fu
            induction fu with
            | zero => intro k hk hf3; exact absurd True.intro (by omega)
            | succ fu ih_137 =>
              intro k hk hf3
              refine g_iload 7 C rfl dL_value_137 ?_
              refine g_aload 4 C rfl dL_value_139 ?_
              refine g_bipush 7 C dL_value_141 (by decide) ?_
              refine g_iload_n 0 C rfl dL_value_143 rfl ?_
              refine g_imulN 7 q C dL_value_144 ?_
              refine g_iconst 1 C dL_value_145 (by decide) ?_
              refine g_iaddN (7 * q) 1 C dL_value_146 ?_
              refine g_ialdN (cA := cI) (n := 28) (a := g 5) (f := τ.2 5) ((7 * q) + 1) 5 0 C rfl rfl (by omega) (by decide) dL_value_147 ?_
              refine g_is (nI (cr)) ((hV.2.2.2.1 q hq).trans ecr) ?_
              refine g_icmp_ge 169 C dL_value_148 (by decide) (fun c_148_3 => ?_) (fun c_148_3 => ?_)
              ·
                have d_148_3 : cr ≤ k := (nI_leI (a := cr) (b := k) (by omega) (by omega)).mp c_148_3
                have hex : k = cr ∨ nI (S9 / n9) - nI (k * ((S9 / n9) / 20)) ≤ 0 := Or.inl (by omega)
                refine g_iload 5 C rfl dL_value_169 ?_
                refine g_if_ge 178 C dL_value_171 (by decide) (fun c_171_4 => ?_) (fun c_171_4 => ?_)
                ·
                  refine g_iload 5 C rfl dL_value_178 ?_
                  exact g_iret C hr rfl dL_value_180 (Nat.zero_le _) (Nat.zero_le _) rfl (by rw [valA, hav, ecr]; exact congrArg (fun x => some (Value.int x)) ((val_end hw9 (by omega) hk hex).1 c_171_4)) rfl
                ·
                  refine g_iconst 0 C dL_value_174 (by decide) ?_
                  refine g_goto 180 C dL_value_175 (by decide) ?_
                  exact g_iret C hr rfl dL_value_180 (Nat.zero_le _) (Nat.zero_le _) rfl (by rw [valA, hav, ecr]; exact congrArg (fun x => some (Value.int x)) ((val_end hw9 (by omega) hk hex).2 c_171_4)) rfl
              ·
                have d_148_3 : ¬ cr ≤ k := fun zz => c_148_3 ((nI_leI (a := cr) (b := k) (by omega) (by omega)).mpr zz)
                refine g_iload 5 C rfl dL_value_151 ?_
                refine g_if_le 169 C dL_value_153 (by decide) (fun c_153_5 => ?_) (fun c_153_5 => ?_)
                ·
                  have hex : k = cr ∨ nI (S9 / n9) - nI (k * ((S9 / n9) / 20)) ≤ 0 := Or.inr c_153_5
                  refine g_iload 5 C rfl dL_value_169 ?_
                  refine g_if_ge 178 C dL_value_171 (by decide) (fun c_171_6 => ?_) (fun c_171_6 => ?_)
                  ·
                    refine g_iload 5 C rfl dL_value_178 ?_
                    exact g_iret C hr rfl dL_value_180 (Nat.zero_le _) (Nat.zero_le _) rfl (by rw [valA, hav, ecr]; exact congrArg (fun x => some (Value.int x)) ((val_end hw9 (by omega) hk hex).1 c_171_6)) rfl
                  ·
                    refine g_iconst 0 C dL_value_174 (by decide) ?_
                    refine g_goto 180 C dL_value_175 (by decide) ?_
                    exact g_iret C hr rfl dL_value_180 (Nat.zero_le _) (Nat.zero_le _) rfl (by rw [valA, hav, ecr]; exact congrArg (fun x => some (Value.int x)) ((val_end hw9 (by omega) hk hex).2 c_171_6)) rfl
                ·
                  refine g_iload 5 C rfl dL_value_156 ?_
                  refine g_iload 6 C rfl dL_value_158 ?_
                  refine g_isub C dL_value_160 ?_
                  refine g_is ((nI (S9 / n9) - nI ((k + 1) * ((S9 / n9) / 20)))) (sub_s9 _ _ _) ?_
                  refine g_istore [(8, .int (nI (S9 / n9) - nI ((k + 1) * ((S9 / n9) / 20)))), (0, .int (nI (q))), (1, .ref (g 1)), (2, .ref (g 3)), (3, .ref (g 4)), (4, .ref (g 5)), (9, .int (nI ((S9 / n9) / 20))), (10, .int (nI (k)))] C dL_value_161 (by decide) rfl ?_
                  refine g_iincN 7 k 1 [(10, .int (nI (k + 1))), (8, .int (nI (S9 / n9) - nI ((k + 1) * ((S9 / n9) / 20)))), (0, .int (nI (q))), (1, .ref (g 1)), (2, .ref (g 3)), (3, .ref (g 4)), (4, .ref (g 5)), (9, .int (nI ((S9 / n9) / 20)))] C dL_value_163 rfl (by decide) (by decide) rfl ?_
                  refine g_goto 137 C dL_value_166 (by decide) ?_
                  refine g_lv [2, 3, 4, 5, 6, 1, 7, 0] [(0, .int (nI (q))), (1, .ref (g 1)), (2, .ref (g 3)), (3, .ref (g 4)), (4, .ref (g 5)), (8, .int (nI (S9 / n9) - nI ((k + 1) * ((S9 / n9) / 20)))), (9, .int (nI ((S9 / n9) / 20))), (10, .int (nI (k + 1)))] rfl ?_
                  exact ih_137 (k + 1) (by omega) (by omega)
          refine g_lv [3, 4, 5, 6, 7, 2, 1, 0] [(0, .int (nI (q))), (1, .ref (g 1)), (2, .ref (g 3)), (3, .ref (g 4)), (4, .ref (g 5)), (8, .int (nI (S9 / n9))), (9, .int (nI (S9 / n9 / 20))), (10, .int (0))] rfl ?_
          have hl0 := loop_137 (cr + 1) 0 (by omega) (by omega)
          rw [sub_z9] at hl0
          exact hl0
        ·
          have d_113_2 : n9 = 0 := (nI_eq (a := n9) (b := 0) (by omega) (by omega)).mp c_113_2
          have hav0 : avgA σ 4 6 4 q = 0 := by rw [avgA, he9, if_neg (fun z => absurd z (nI_nm1 (by omega))), en, if_pos c_113_2]
          refine g_iconst 0 C dL_value_116 (by decide) ?_
          refine g_goto 125 C dL_value_117 (by decide) ?_
          refine g_istore [(8, .int (0)), (0, .int (nI (q))), (1, .ref (g 1)), (2, .ref (g 3)), (3, .ref (g 4)), (4, .ref (g 5)), (5, .int (nI (b))), (6, .int (nI (S9))), (7, .int (nI (n9)))] C dL_value_125 (by decide) rfl ?_
          refine g_iload 0 C rfl dL_value_127 ?_
          refine g_bipush 20 C dL_value_129 (by decide) ?_
          refine g_idiv C (by decide) dL_value_131 ?_
          refine g_is (0) (by decide) ?_
          refine g_istore [(9, .int (0)), (8, .int (0)), (0, .int (nI (q))), (1, .ref (g 1)), (2, .ref (g 3)), (3, .ref (g 4)), (4, .ref (g 5)), (5, .int (nI (b))), (6, .int (nI (S9))), (7, .int (nI (n9)))] C dL_value_132 (by decide) rfl ?_
          refine g_iconst 0 C dL_value_134 (by decide) ?_
          refine g_istore [(10, .int (0)), (9, .int (0)), (8, .int (0)), (0, .int (nI (q))), (1, .ref (g 1)), (2, .ref (g 3)), (3, .ref (g 4)), (4, .ref (g 5)), (5, .int (nI (b))), (6, .int (nI (S9))), (7, .int (nI (n9)))] C dL_value_135 (by decide) rfl ?_
          refine g_iload 0 C rfl dL_value_137 ?_
          refine g_aload 7 C rfl dL_value_139 ?_
          refine g_bipush 7 C dL_value_141 (by decide) ?_
          refine g_iload_n 3 C rfl dL_value_143 rfl ?_
          refine g_imulN 7 q C dL_value_144 ?_
          refine g_iconst 1 C dL_value_145 (by decide) ?_
          refine g_iaddN (7 * q) 1 C dL_value_146 ?_
          refine g_ialdN (cA := cI) (n := 28) (a := g 5) (f := τ.2 5) ((7 * q) + 1) 5 0 C rfl rfl (by omega) (by decide) dL_value_147 ?_
          refine g_is (nI (cr)) ((hV.2.2.2.1 q hq).trans ecr) ?_
          refine g_icmp_ge 169 C dL_value_148 (by decide) (fun c_148_7 => ?_) (fun c_148_7 => ?_)
          ·
            have d_148_7 : cr ≤ 0 := (nI_leI (a := cr) (b := 0) (by omega) (by omega)).mp c_148_7
            refine g_iload 2 C rfl dL_value_169 ?_
            refine g_if_ge 178 C dL_value_171 (by decide) (fun _ => ?_) (fun q => absurd q (by decide))
            refine g_iload 2 C rfl dL_value_178 ?_
            exact g_iret C hr rfl dL_value_180 (Nat.zero_le _) (Nat.zero_le _) rfl (by rw [valA, hav0]; exact congrArg (fun x => some (Value.int x)) (val_z _)) rfl
          ·
            have d_148_7 : ¬ cr ≤ 0 := fun zz => c_148_7 ((nI_leI (a := cr) (b := 0) (by omega) (by omega)).mpr zz)
            refine g_iload 2 C rfl dL_value_151 ?_
            refine g_if_le 169 C dL_value_153 (by decide) (fun _ => ?_) (fun q => absurd q (by decide))
            refine g_iload 2 C rfl dL_value_169 ?_
            refine g_if_ge 178 C dL_value_171 (by decide) (fun _ => ?_) (fun q => absurd q (by decide))
            refine g_iload 2 C rfl dL_value_178 ?_
            exact g_iret C hr rfl dL_value_180 (Nat.zero_le _) (Nat.zero_le _) rfl (by rw [valA, hav0]; exact congrArg (fun x => some (Value.int x)) (val_z _)) rfl
      ·
        have d_23_1 : ¬ 4 ≤ i := fun zz => c_23_1 ((nI_leI (a := 4) (b := i) (by omega) (by omega)).mpr zz)
        refine g_iload 5 C rfl dL_value_26 ?_
        refine g_if_lt 63 C dL_value_28 (by decide) (fun q => absurd q (nI_pos (by omega))) (fun _ => ?_)
        refine g_aload 4 C rfl dL_value_31 ?_
        refine g_bipush 7 C dL_value_33 (by decide) ?_
        refine g_iload 8 C rfl dL_value_35 ?_
        refine g_imulN 7 i C dL_value_37 ?_
        refine g_iconst 2 C dL_value_38 (by decide) ?_
        refine g_iaddN (7 * i) 2 C dL_value_39 ?_
        refine g_ialdN (cA := cI) (n := 28) (a := g 5) (f := τ.2 5) ((7 * i) + 2) 5 0 C rfl rfl (by omega) (by decide) dL_value_40 ?_
        refine g_is ((σ.2 6 i)) (hV.2.2.2.2 i (by omega)) ?_
        refine g_if_le 63 C dL_value_41 (by decide) (fun c_41_8 => ?_) (fun c_41_8 => ?_)
        ·
          refine g_iconst 0 C dL_value_63 (by decide) ?_
          refine g_istore [(9, .int (0)), (0, .int (nI (q))), (1, .ref (g 1)), (2, .ref (g 3)), (3, .ref (g 4)), (4, .ref (g 5)), (5, .int (nI (b))), (6, .int ((alk σ 4 6 (nI b) i).1)), (7, .int ((alk σ 4 6 (nI b) i).2)), (8, .int (nI (i)))] C dL_value_64 (by decide) rfl ?_
          refine g_iload 7 C rfl dL_value_66 ?_
          refine g_iload 0 C rfl dL_value_68 ?_
          refine g_if_eq 86 C dL_value_70 (by decide) (fun _ => ?_) (fun q => absurd q (by decide))
          refine g_iconst 0 C dL_value_86 (by decide) ?_
          refine g_iadd C dL_value_87 ?_
          refine g_is (((alk σ 4 6 (nI b) (i + 1)).1)) (by show _ = (if ¬ σ.2 6 i ≤ 0 ∧ mpo σ 4 6 i = nI b then ((alk σ 4 6 (nI b) i).1 + σ.2 6 i, (alk σ 4 6 (nI b) i).2 + 1) else alk σ 4 6 (nI b) i).1; rw [if_neg (fun z => z.1 c_41_8), Int32.add_zero]) ?_
          refine g_istore [(6, .int ((alk σ 4 6 (nI b) (i + 1)).1)), (9, .int (0)), (0, .int (nI (q))), (1, .ref (g 1)), (2, .ref (g 3)), (3, .ref (g 4)), (4, .ref (g 5)), (5, .int (nI (b))), (7, .int ((alk σ 4 6 (nI b) i).2)), (8, .int (nI (i)))] C dL_value_88 (by decide) rfl ?_
          refine g_iload 8 C rfl dL_value_90 ?_
          refine g_iload 1 C rfl dL_value_92 ?_
          refine g_if_eq 101 C dL_value_94 (by decide) (fun _ => ?_) (fun q => absurd q (by decide))
          refine g_iconst 0 C dL_value_101 (by decide) ?_
          refine g_iadd C dL_value_102 ?_
          refine g_is (((alk σ 4 6 (nI b) (i + 1)).2)) (by show _ = (if ¬ σ.2 6 i ≤ 0 ∧ mpo σ 4 6 i = nI b then ((alk σ 4 6 (nI b) i).1 + σ.2 6 i, (alk σ 4 6 (nI b) i).2 + 1) else alk σ 4 6 (nI b) i).2; rw [if_neg (fun z => z.1 c_41_8), Int32.add_zero]) ?_
          refine g_istore [(7, .int ((alk σ 4 6 (nI b) (i + 1)).2)), (6, .int ((alk σ 4 6 (nI b) (i + 1)).1)), (9, .int (0)), (0, .int (nI (q))), (1, .ref (g 1)), (2, .ref (g 3)), (3, .ref (g 4)), (4, .ref (g 5)), (5, .int (nI (b))), (8, .int (nI (i)))] C dL_value_103 (by decide) rfl ?_
          refine g_iincN 9 i 1 [(8, .int (nI (i + 1))), (7, .int ((alk σ 4 6 (nI b) (i + 1)).2)), (6, .int ((alk σ 4 6 (nI b) (i + 1)).1)), (9, .int (0)), (0, .int (nI (q))), (1, .ref (g 1)), (2, .ref (g 3)), (3, .ref (g 4)), (4, .ref (g 5)), (5, .int (nI (b)))] C dL_value_105 rfl (by decide) (by decide) rfl ?_
          refine g_goto 20 C dL_value_108 (by decide) ?_
          refine g_lv [4, 5, 6, 7, 8, 9, 2, 1, 0] [(0, .int (nI (q))), (1, .ref (g 1)), (2, .ref (g 3)), (3, .ref (g 4)), (4, .ref (g 5)), (5, .int (nI (b))), (6, .int ((alk σ 4 6 (nI b) (i + 1)).1)), (7, .int ((alk σ 4 6 (nI b) (i + 1)).2)), (8, .int (nI (i + 1)))] rfl ?_
          exact ih_20 (i + 1) (by omega) (by omega)
        ·
          refine g_iload 8 C rfl dL_value_44 ?_
          refine g_aload_n 1 C rfl dL_value_46 rfl ?_
          refine g_aload_n 2 C rfl dL_value_47 rfl ?_
          refine g_aload_n 3 C rfl dL_value_48 rfl ?_
          refine g_aload 4 C rfl dL_value_49 ?_
          refine g_bS (na := 5) (av := [.int (nI (i)), .ref (g 1), .ref (g 3), .ref (g 4), .ref (g 5)]) (c_main l D cI cJ g σ τ i (by omega) hV (hS.1 i (by omega))) C gL_value_L_main rfl (by decide +kernel) rfl ⟨Nat.le_of_ble_eq_true rfl, Nat.le_of_ble_eq_true rfl⟩ rfl (Nat.le_of_ble_eq_true rfl) ⟨Nat.zero_le _, Nat.zero_le _⟩ dL_value_51 ?_
          refine g_iload 5 C rfl dL_value_54 ?_
          refine g_icmp_ne 63 C dL_value_56 (by decide) (fun c_56_9 => ?_) (fun c_56_9 => ?_)
          ·
            refine g_iconst 0 C dL_value_63 (by decide) ?_
            refine g_istore [(9, .int (0)), (0, .int (nI (q))), (1, .ref (g 1)), (2, .ref (g 3)), (3, .ref (g 4)), (4, .ref (g 5)), (5, .int (nI (b))), (6, .int ((alk σ 4 6 (nI b) i).1)), (7, .int ((alk σ 4 6 (nI b) i).2)), (8, .int (nI (i)))] C dL_value_64 (by decide) rfl ?_
            refine g_iload 7 C rfl dL_value_66 ?_
            refine g_iload 0 C rfl dL_value_68 ?_
            refine g_if_eq 86 C dL_value_70 (by decide) (fun _ => ?_) (fun q => absurd q (by decide))
            refine g_iconst 0 C dL_value_86 (by decide) ?_
            refine g_iadd C dL_value_87 ?_
            refine g_is (((alk σ 4 6 (nI b) (i + 1)).1)) (by show _ = (if ¬ σ.2 6 i ≤ 0 ∧ mpo σ 4 6 i = nI b then ((alk σ 4 6 (nI b) i).1 + σ.2 6 i, (alk σ 4 6 (nI b) i).2 + 1) else alk σ 4 6 (nI b) i).1; rw [if_neg (fun z => c_56_9 z.2), Int32.add_zero]) ?_
            refine g_istore [(6, .int ((alk σ 4 6 (nI b) (i + 1)).1)), (9, .int (0)), (0, .int (nI (q))), (1, .ref (g 1)), (2, .ref (g 3)), (3, .ref (g 4)), (4, .ref (g 5)), (5, .int (nI (b))), (7, .int ((alk σ 4 6 (nI b) i).2)), (8, .int (nI (i)))] C dL_value_88 (by decide) rfl ?_
            refine g_iload 8 C rfl dL_value_90 ?_
            refine g_iload 1 C rfl dL_value_92 ?_
            refine g_if_eq 101 C dL_value_94 (by decide) (fun _ => ?_) (fun q => absurd q (by decide))
            refine g_iconst 0 C dL_value_101 (by decide) ?_
            refine g_iadd C dL_value_102 ?_
            refine g_is (((alk σ 4 6 (nI b) (i + 1)).2)) (by show _ = (if ¬ σ.2 6 i ≤ 0 ∧ mpo σ 4 6 i = nI b then ((alk σ 4 6 (nI b) i).1 + σ.2 6 i, (alk σ 4 6 (nI b) i).2 + 1) else alk σ 4 6 (nI b) i).2; rw [if_neg (fun z => c_56_9 z.2), Int32.add_zero]) ?_
            refine g_istore [(7, .int ((alk σ 4 6 (nI b) (i + 1)).2)), (6, .int ((alk σ 4 6 (nI b) (i + 1)).1)), (9, .int (0)), (0, .int (nI (q))), (1, .ref (g 1)), (2, .ref (g 3)), (3, .ref (g 4)), (4, .ref (g 5)), (5, .int (nI (b))), (8, .int (nI (i)))] C dL_value_103 (by decide) rfl ?_
            refine g_iincN 9 i 1 [(8, .int (nI (i + 1))), (7, .int ((alk σ 4 6 (nI b) (i + 1)).2)), (6, .int ((alk σ 4 6 (nI b) (i + 1)).1)), (9, .int (0)), (0, .int (nI (q))), (1, .ref (g 1)), (2, .ref (g 3)), (3, .ref (g 4)), (4, .ref (g 5)), (5, .int (nI (b)))] C dL_value_105 rfl (by decide) (by decide) rfl ?_
            refine g_goto 20 C dL_value_108 (by decide) ?_
            refine g_lv [4, 5, 6, 7, 8, 9, 2, 1, 0] [(0, .int (nI (q))), (1, .ref (g 1)), (2, .ref (g 3)), (3, .ref (g 4)), (4, .ref (g 5)), (5, .int (nI (b))), (6, .int ((alk σ 4 6 (nI b) (i + 1)).1)), (7, .int ((alk σ 4 6 (nI b) (i + 1)).2)), (8, .int (nI (i + 1)))] rfl ?_
            exact ih_20 (i + 1) (by omega) (by omega)
          ·
            refine g_iconst 1 C dL_value_59 (by decide) ?_
            refine g_goto 64 C dL_value_60 (by decide) ?_
            refine g_istore [(9, .int (1)), (0, .int (nI (q))), (1, .ref (g 1)), (2, .ref (g 3)), (3, .ref (g 4)), (4, .ref (g 5)), (5, .int (nI (b))), (6, .int ((alk σ 4 6 (nI b) i).1)), (7, .int ((alk σ 4 6 (nI b) i).2)), (8, .int (nI (i)))] C dL_value_64 (by decide) rfl ?_
            refine g_iload 7 C rfl dL_value_66 ?_
            refine g_iload 0 C rfl dL_value_68 ?_
            refine g_if_eq 86 C dL_value_70 (by decide) (fun q => absurd q (by decide)) (fun _ => ?_)
            refine g_aload 5 C rfl dL_value_73 ?_
            refine g_bipush 7 C dL_value_75 (by decide) ?_
            refine g_iload 9 C rfl dL_value_77 ?_
            refine g_imulN 7 i C dL_value_79 ?_
            refine g_iconst 2 C dL_value_80 (by decide) ?_
            refine g_iaddN (7 * i) 2 C dL_value_81 ?_
            refine g_ialdN (cA := cI) (n := 28) (a := g 5) (f := τ.2 5) ((7 * i) + 2) 5 0 C rfl rfl (by omega) (by decide) dL_value_82 ?_
            refine g_is ((σ.2 6 i)) (hV.2.2.2.2 i (by omega)) ?_
            refine g_goto 87 C dL_value_83 (by decide) ?_
            refine g_iadd C dL_value_87 ?_
            refine g_is (((alk σ 4 6 (nI b) (i + 1)).1)) (by show _ = (if ¬ σ.2 6 i ≤ 0 ∧ mpo σ 4 6 i = nI b then ((alk σ 4 6 (nI b) i).1 + σ.2 6 i, (alk σ 4 6 (nI b) i).2 + 1) else alk σ 4 6 (nI b) i).1; rw [if_pos ⟨c_41_8, c_56_9⟩]) ?_
            refine g_istore [(6, .int ((alk σ 4 6 (nI b) (i + 1)).1)), (9, .int (1)), (0, .int (nI (q))), (1, .ref (g 1)), (2, .ref (g 3)), (3, .ref (g 4)), (4, .ref (g 5)), (5, .int (nI (b))), (7, .int ((alk σ 4 6 (nI b) i).2)), (8, .int (nI (i)))] C dL_value_88 (by decide) rfl ?_
            refine g_iload 8 C rfl dL_value_90 ?_
            refine g_iload 1 C rfl dL_value_92 ?_
            refine g_if_eq 101 C dL_value_94 (by decide) (fun q => absurd q (by decide)) (fun _ => ?_)
            refine g_iconst 1 C dL_value_97 (by decide) ?_
            refine g_goto 102 C dL_value_98 (by decide) ?_
            refine g_iadd C dL_value_102 ?_
            refine g_is (((alk σ 4 6 (nI b) (i + 1)).2)) (by show _ = (if ¬ σ.2 6 i ≤ 0 ∧ mpo σ 4 6 i = nI b then ((alk σ 4 6 (nI b) i).1 + σ.2 6 i, (alk σ 4 6 (nI b) i).2 + 1) else alk σ 4 6 (nI b) i).2; rw [if_pos ⟨c_41_8, c_56_9⟩]) ?_
            refine g_istore [(7, .int ((alk σ 4 6 (nI b) (i + 1)).2)), (6, .int ((alk σ 4 6 (nI b) (i + 1)).1)), (9, .int (1)), (0, .int (nI (q))), (1, .ref (g 1)), (2, .ref (g 3)), (3, .ref (g 4)), (4, .ref (g 5)), (5, .int (nI (b))), (8, .int (nI (i)))] C dL_value_103 (by decide) rfl ?_
            refine g_iincN 9 i 1 [(8, .int (nI (i + 1))), (7, .int ((alk σ 4 6 (nI b) (i + 1)).2)), (6, .int ((alk σ 4 6 (nI b) (i + 1)).1)), (9, .int (1)), (0, .int (nI (q))), (1, .ref (g 1)), (2, .ref (g 3)), (3, .ref (g 4)), (4, .ref (g 5)), (5, .int (nI (b)))] C dL_value_105 rfl (by decide) (by decide) rfl ?_
            refine g_goto 20 C dL_value_108 (by decide) ?_
            refine g_lv [4, 5, 6, 7, 8, 9, 2, 1, 0] [(0, .int (nI (q))), (1, .ref (g 1)), (2, .ref (g 3)), (3, .ref (g 4)), (4, .ref (g 5)), (5, .int (nI (b))), (6, .int ((alk σ 4 6 (nI b) (i + 1)).1)), (7, .int ((alk σ 4 6 (nI b) (i + 1)).2)), (8, .int (nI (i + 1)))] rfl ?_
            exact ih_20 (i + 1) (by omega) (by omega)
  refine g_lv [4, 5, 6, 7, 8, 3, 2, 1, 0] [(0, .int (nI (q))), (1, .ref (g 1)), (2, .ref (g 3)), (3, .ref (g 4)), (4, .ref (g 5)), (5, .int (nI (b))), (6, .int (0)), (7, .int (0)), (8, .int (0))] rfl ?_
  exact loop_20 5 0 (by omega) (by omega)
theorem c_value (l : Launch) (D : va_G) (cI cJ : ClassId) (g : Nat → Nat) (σ τ : gS) (q : Nat) (hq : q < 4) (hV : relV σ τ) (T : Nat) (hT : T ≤ 600) (hS : smlV σ T) : MC l yL_value wsL_value 2 53 D (tyIJ cI cJ) [.int (nI (q)), .ref (g 1), .ref (g 3), .ref (g 4), .ref (g 5)] (wL cI g τ) (wL cI g τ) none (some (.int (valA σ 4 6 4 q))) 0 := by
  rcases mpo_1 σ 4 6 q with e | ⟨b, hb, e⟩
  · have h0 : valA σ 4 6 4 q = 0 := by rw [valA, avgA, if_pos e]; exact (val_z _).symm
    rw [h0]; exact c_value0 l D cI cJ g σ τ q hq hV T hT hS e
  · exact c_value1 l D cI cJ g σ τ q hq hV T hT hS b hb e
