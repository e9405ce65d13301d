/-! The law's mixes. -/
set_option maxRecDepth 100000 in
set_option maxHeartbeats 4000000 in
theorem x_squeeze0 (l : Launch) (D : va_G) (cI cJ : ClassId) (hst : l.stackTraces = false) (h g : Nat → Nat) (σ τ : gS) (hI : iA σ 4 6 4 4) (z : Int32) (pt : Nat) (e0 : lowN z 4 = pt) (hpt : pt < 4) (tb s0 : Nat) (e1 : lowN (z >>> (2 &&& 31)) 6 = tb) (e2 : lowN (z >>> (5 &&& 31)) 60 = s0) (htb : tb < 6) (hs0 : s0 < 60) (hc : nI (1 + s0) ≤ τ.2 1 (3 * tb + 1)) (hK : 0 = th_squeeze σ 6 4 (nI pt) (nI tb) (nI (1 + s0))) (hres : σ.2 2 tb - nI (1 + s0) = τ.2 1 (3 * tb + 1) - nI (1 + s0)) : MC l yL_mixes wsL_mixes 9 187 D (tyIJ cI cJ) [.ref (h 0), .int (0), .int (z), .ref (g 1), .ref (g 2), .ref (g 3), .ref (g 4), .ref (g 5), .ref (g 7)] (wB cI h g σ τ) (wB cI h g (s_squeeze σ pt tb (nI (1 + s0))) (sA (sA τ 1 (upd (τ.2 1) (3 * tb + 1) (τ.2 1 (3 * tb + 1) - nI (1 + s0)))) 2 (upd (τ.2 2) (6 * pt + tb) (τ.2 2 (6 * pt + tb) + nI (1 + s0))))) none (some (.int 1)) 1 := by
  refine MC.ofG (cc := cL_mixes) (maxL := 19) (ret := (some .boolean)) [(0, .ref (h 0)), (1, .int (0)), (2, .int (z)), (3, .ref (g 1)), (4, .ref (g 2)), (5, .ref (g 3)), (6, .ref (g 4)), (7, .ref (g 5)), (8, .ref (g 7))] (by decide) rfl (Nat.le_of_ble_eq_true rfl) rfl ?_
  intro p e s m args below meth c C hr hout
  refine g_iload_n 2 C rfl dL_mixes_0 rfl ?_
  refine g_iconst 4 C dL_mixes_1 (by decide) ?_
  refine g_bS (na := 2) (av := [.int (z), .int (4)]) (c_low l D cI cJ _ (z) 4 (pt) (by decide) (by decide) (e0)) C gL_mixes_L_low rfl (by decide +kernel) rfl ⟨Nat.le_of_ble_eq_true rfl, Nat.le_of_ble_eq_true rfl⟩ rfl (Nat.le_of_ble_eq_true rfl) ⟨by decide, by decide⟩ dL_mixes_2 ?_
  refine g_istore [(9, .int (nI (pt))), (0, .ref (h 0)), (1, .int (0)), (2, .int (z)), (3, .ref (g 1)), (4, .ref (g 2)), (5, .ref (g 3)), (6, .ref (g 4)), (7, .ref (g 5)), (8, .ref (g 7))] C dL_mixes_5 (by decide) rfl ?_
  refine g_iload_n 2 C rfl dL_mixes_7 rfl ?_
  refine g_if_ne 139 C dL_mixes_8 (by decide) (fun q => absurd q (by decide)) (fun _ => ?_)
  refine g_iload_n 3 C rfl dL_mixes_11 rfl ?_
  refine g_iconst 2 C dL_mixes_12 (by decide) ?_
  refine g_ishr C dL_mixes_13 ?_
  refine g_bipush 6 C dL_mixes_14 (by decide) ?_
  refine g_bS (na := 2) (av := [.int (z >>> (2 &&& 31)), .int (6)]) (c_low l D cI cJ _ ((z >>> (2 &&& 31))) 6 (tb) (by decide) (by decide) (e1)) C gL_mixes_L_low rfl (by decide +kernel) rfl ⟨Nat.le_of_ble_eq_true rfl, Nat.le_of_ble_eq_true rfl⟩ rfl (Nat.le_of_ble_eq_true rfl) ⟨by decide, by decide⟩ dL_mixes_16 ?_
  refine g_istore [(10, .int (nI (tb))), (9, .int (nI (pt))), (0, .ref (h 0)), (1, .int (0)), (2, .int (z)), (3, .ref (g 1)), (4, .ref (g 2)), (5, .ref (g 3)), (6, .ref (g 4)), (7, .ref (g 5)), (8, .ref (g 7))] C dL_mixes_19 (by decide) rfl ?_
  refine g_iconst 1 C dL_mixes_21 (by decide) ?_
  refine g_iload_n 4 C rfl dL_mixes_22 rfl ?_
  refine g_iconst 5 C dL_mixes_23 (by decide) ?_
  refine g_ishr C dL_mixes_24 ?_
  refine g_bipush 60 C dL_mixes_25 (by decide) ?_
  refine g_bS (na := 2) (av := [.int (z >>> (5 &&& 31)), .int (60)]) (c_low l D cI cJ _ ((z >>> (5 &&& 31))) 60 (s0) (by decide) (by decide) (e2)) C gL_mixes_L_low rfl (by decide +kernel) rfl ⟨Nat.le_of_ble_eq_true rfl, Nat.le_of_ble_eq_true rfl⟩ rfl (Nat.le_of_ble_eq_true rfl) ⟨by decide, by decide⟩ dL_mixes_27 ?_
  refine g_iaddN 1 s0 C dL_mixes_30 ?_
  refine g_istore [(11, .int (nI (1 + s0))), (10, .int (nI (tb))), (9, .int (nI (pt))), (0, .ref (h 0)), (1, .int (0)), (2, .int (z)), (3, .ref (g 1)), (4, .ref (g 2)), (5, .ref (g 3)), (6, .ref (g 4)), (7, .ref (g 5)), (8, .ref (g 7))] C dL_mixes_31 (by decide) rfl ?_
  refine g_aload_n 6 C rfl dL_mixes_33 rfl ?_
  refine g_iconst 3 C dL_mixes_34 (by decide) ?_
  refine g_iload 1 C rfl dL_mixes_35 ?_
  refine g_imulN 3 tb C dL_mixes_37 ?_
  refine g_iconst 1 C dL_mixes_38 (by decide) ?_
  refine g_iaddN (3 * tb) 1 C dL_mixes_39 ?_
  refine g_ialdN (cA := cI) (n := 18) (a := g 1) (f := τ.2 1) ((3 * tb) + 1) 14 0 C rfl rfl (by omega) (by decide) dL_mixes_40 ?_
  refine g_iload 0 C rfl dL_mixes_41 ?_
  refine g_icmp_lt 50 C dL_mixes_43 (by decide) (fun q => absurd q (i32_nlt hc)) (fun _ => ?_)
  refine g_iconst 1 C dL_mixes_46 (by decide) ?_
  refine g_goto 51 C dL_mixes_47 (by decide) ?_
  refine g_istore [(12, .int (1)), (11, .int (nI (1 + s0))), (10, .int (nI (tb))), (9, .int (nI (pt))), (0, .ref (h 0)), (1, .int (0)), (2, .int (z)), (3, .ref (g 1)), (4, .ref (g 2)), (5, .ref (g 3)), (6, .ref (g 4)), (7, .ref (g 5)), (8, .ref (g 7))] C dL_mixes_51 (by decide) rfl ?_
  refine g_aload_n 7 C rfl dL_mixes_53 rfl ?_
  refine g_iconst 3 C dL_mixes_54 (by decide) ?_
  refine g_iload 2 C rfl dL_mixes_55 ?_
  refine g_imulN 3 tb C dL_mixes_57 ?_
  refine g_iconst 1 C dL_mixes_58 (by decide) ?_
  refine g_iaddN (3 * tb) 1 C dL_mixes_59 ?_
  refine g_dup2 C dL_mixes_60 rfl rfl ?_
  refine g_ialdN (cA := cI) (n := 18) (a := g 1) (f := τ.2 1) ((3 * tb) + 1) 14 0 C rfl rfl (by omega) (by decide) dL_mixes_61 ?_
  refine g_iload 0 C rfl dL_mixes_62 ?_
  refine g_if_eq 72 C dL_mixes_64 (by decide) (fun q => absurd q (by decide)) (fun _ => ?_)
  refine g_iload 1 C rfl dL_mixes_67 ?_
  refine g_goto 73 C dL_mixes_69 (by decide) ?_
  refine g_isub C dL_mixes_73 ?_
  refine g_iastN (cA := cI) (n := 18) (a := g 1) (f := τ.2 1) (x := ((τ.2 1 ((3 * tb) + 1)) - nI (1 + s0))) ((3 * tb) + 1) 14 0 (wB cI h g σ (sA τ 1 (upd (τ.2 1) ((3 * tb) + 1) (((τ.2 1 ((3 * tb) + 1)) - nI (1 + s0)))))) C rfl rfl (by omega) (by decide) rfl dL_mixes_74 ?_
  refine g_aload 8 C rfl dL_mixes_75 ?_
  refine g_bipush 6 C dL_mixes_77 (by decide) ?_
  refine g_iload 3 C rfl dL_mixes_79 ?_
  refine g_imulN 6 pt C dL_mixes_81 ?_
  refine g_iload 2 C rfl dL_mixes_82 ?_
  refine g_iaddN (6 * pt) tb C dL_mixes_84 ?_
  refine g_dup2 C dL_mixes_85 rfl rfl ?_
  refine g_ialdN (cA := cI) (n := 24) (a := g 2) (f := τ.2 2) ((6 * pt) + tb) 15 0 C rfl rfl (by omega) (by decide) dL_mixes_86 ?_
  refine g_iload 0 C rfl dL_mixes_87 ?_
  refine g_if_eq 97 C dL_mixes_89 (by decide) (fun q => absurd q (by decide)) (fun _ => ?_)
  refine g_iload 1 C rfl dL_mixes_92 ?_
  refine g_goto 98 C dL_mixes_94 (by decide) ?_
  refine g_iadd C dL_mixes_98 ?_
  refine g_iastN (cA := cI) (n := 24) (a := g 2) (f := τ.2 2) (x := ((τ.2 2 ((6 * pt) + tb)) + nI (1 + s0))) ((6 * pt) + tb) 15 0 (wB cI h g σ (sA (sA τ 1 (upd (τ.2 1) ((3 * tb) + 1) (((τ.2 1 ((3 * tb) + 1)) - nI (1 + s0))))) 2 (upd (τ.2 2) ((6 * pt) + tb) (((τ.2 2 ((6 * pt) + tb)) + nI (1 + s0)))))) C rfl rfl (by omega) (by decide) rfl dL_mixes_99 ?_
  refine g_aload_n 4 C rfl dL_mixes_100 rfl ?_
  refine g_iconst 0 C dL_mixes_101 (by decide) ?_
  refine g_iload 3 C rfl dL_mixes_102 ?_
  refine g_iload 2 C rfl dL_mixes_104 ?_
  refine g_iload 1 C rfl dL_mixes_106 ?_
  refine g_bA (na := 5) (av := [.ref (h 0), .int (0), .int (nI (pt)), .int (nI (tb)), .int (nI (1 + s0))]) (k0_squeeze l D cI cJ hst h σ hI (pt) (tb) (nI (1 + s0))  (by omega) (by omega) hK) C gL_mixes_L_calls rfl (by decide +kernel) rfl ⟨Nat.le_of_ble_eq_true rfl, Nat.le_of_ble_eq_true rfl⟩ rfl (Nat.le_of_ble_eq_true rfl) ⟨by decide, by decide⟩ dL_mixes_108 ?_
  refine g_w (wB cI h g (s_squeeze σ pt tb (nI (1 + s0))) (sA (sA τ 1 (upd (τ.2 1) ((3 * tb) + 1) (((τ.2 1 ((3 * tb) + 1)) - nI (1 + s0))))) 2 (upd (τ.2 2) ((6 * pt) + tb) (((τ.2 2 ((6 * pt) + tb)) + nI (1 + s0)))))) rfl ?_
  refine g_iload 0 C rfl dL_mixes_111 ?_
  refine g_if_eq 127 C dL_mixes_113 (by decide) (fun q => absurd q (by decide)) (fun _ => ?_)
  refine g_aload_n 7 C rfl dL_mixes_116 rfl ?_
  refine g_iconst 3 C dL_mixes_117 (by decide) ?_
  refine g_iload 2 C rfl dL_mixes_118 ?_
  refine g_imulN 3 tb C dL_mixes_120 ?_
  refine g_iconst 1 C dL_mixes_121 (by decide) ?_
  refine g_iaddN (3 * tb) 1 C dL_mixes_122 ?_
  refine g_ialdN (cA := cI) (n := 18) (a := g 1) (f := upd (τ.2 1) ((3 * tb) + 1) (((τ.2 1 ((3 * tb) + 1)) - nI (1 + s0)))) ((3 * tb) + 1) 14 0 C rfl rfl (by omega) (by decide) dL_mixes_123 ?_
  refine g_is (((τ.2 1 ((3 * tb) + 1)) - nI (1 + s0))) pk_us ?_
  refine g_goto 130 C dL_mixes_124 (by decide) ?_
  refine g_icmp_ne 137 C dL_mixes_130 (by decide) (fun q => absurd hres q) (fun _ => ?_)
  refine g_iconst 1 C dL_mixes_133 (by decide) ?_
  refine g_goto 138 C dL_mixes_134 (by decide) ?_
  exact g_iret C hr rfl dL_mixes_138 (by decide) (by decide) rfl rfl rfl
set_option maxRecDepth 100000 in
set_option maxHeartbeats 4000000 in
theorem x_squeeze3 (l : Launch) (D : va_G) (cI cJ : ClassId) (hst : l.stackTraces = false) (h g : Nat → Nat) (σ τ : gS) (hI : iA σ 4 6 4 4) (z : Int32) (pt : Nat) (e0 : lowN z 4 = pt) (hpt : pt < 4) (tb s0 : Nat) (e1 : lowN (z >>> (2 &&& 31)) 6 = tb) (e2 : lowN (z >>> (5 &&& 31)) 60 = s0) (htb : tb < 6) (hs0 : s0 < 60) (hc : ¬ nI (1 + s0) ≤ τ.2 1 (3 * tb + 1)) (hK : 3 = th_squeeze σ 6 4 (nI pt) (nI tb) (nI (1 + s0))) : MC l yL_mixes wsL_mixes 9 187 D (tyIJ cI cJ) [.ref (h 0), .int (0), .int (z), .ref (g 1), .ref (g 2), .ref (g 3), .ref (g 4), .ref (g 5), .ref (g 7)] (wB cI h g σ τ) (wB cI h g σ (sA (sA τ 1 (upd (τ.2 1) (3 * tb + 1) (τ.2 1 (3 * tb + 1) - 0))) 2 (upd (τ.2 2) (6 * pt + tb) (τ.2 2 (6 * pt + tb) + 0)))) none (some (.int 1)) 1 := by
  refine MC.ofG (cc := cL_mixes) (maxL := 19) (ret := (some .boolean)) [(0, .ref (h 0)), (1, .int (0)), (2, .int (z)), (3, .ref (g 1)), (4, .ref (g 2)), (5, .ref (g 3)), (6, .ref (g 4)), (7, .ref (g 5)), (8, .ref (g 7))] (by decide) rfl (Nat.le_of_ble_eq_true rfl) rfl ?_
  intro p e s m args below meth c C hr hout
  refine g_iload_n 2 C rfl dL_mixes_0 rfl ?_
  refine g_iconst 4 C dL_mixes_1 (by decide) ?_
  refine g_bS (na := 2) (av := [.int (z), .int (4)]) (c_low l D cI cJ _ (z) 4 (pt) (by decide) (by decide) (e0)) C gL_mixes_L_low rfl (by decide +kernel) rfl ⟨Nat.le_of_ble_eq_true rfl, Nat.le_of_ble_eq_true rfl⟩ rfl (Nat.le_of_ble_eq_true rfl) ⟨by decide, by decide⟩ dL_mixes_2 ?_
  refine g_istore [(9, .int (nI (pt))), (0, .ref (h 0)), (1, .int (0)), (2, .int (z)), (3, .ref (g 1)), (4, .ref (g 2)), (5, .ref (g 3)), (6, .ref (g 4)), (7, .ref (g 5)), (8, .ref (g 7))] C dL_mixes_5 (by decide) rfl ?_
  refine g_iload_n 2 C rfl dL_mixes_7 rfl ?_
  refine g_if_ne 139 C dL_mixes_8 (by decide) (fun q => absurd q (by decide)) (fun _ => ?_)
  refine g_iload_n 3 C rfl dL_mixes_11 rfl ?_
  refine g_iconst 2 C dL_mixes_12 (by decide) ?_
  refine g_ishr C dL_mixes_13 ?_
  refine g_bipush 6 C dL_mixes_14 (by decide) ?_
  refine g_bS (na := 2) (av := [.int (z >>> (2 &&& 31)), .int (6)]) (c_low l D cI cJ _ ((z >>> (2 &&& 31))) 6 (tb) (by decide) (by decide) (e1)) C gL_mixes_L_low rfl (by decide +kernel) rfl ⟨Nat.le_of_ble_eq_true rfl, Nat.le_of_ble_eq_true rfl⟩ rfl (Nat.le_of_ble_eq_true rfl) ⟨by decide, by decide⟩ dL_mixes_16 ?_
  refine g_istore [(10, .int (nI (tb))), (9, .int (nI (pt))), (0, .ref (h 0)), (1, .int (0)), (2, .int (z)), (3, .ref (g 1)), (4, .ref (g 2)), (5, .ref (g 3)), (6, .ref (g 4)), (7, .ref (g 5)), (8, .ref (g 7))] C dL_mixes_19 (by decide) rfl ?_
  refine g_iconst 1 C dL_mixes_21 (by decide) ?_
  refine g_iload_n 4 C rfl dL_mixes_22 rfl ?_
  refine g_iconst 5 C dL_mixes_23 (by decide) ?_
  refine g_ishr C dL_mixes_24 ?_
  refine g_bipush 60 C dL_mixes_25 (by decide) ?_
  refine g_bS (na := 2) (av := [.int (z >>> (5 &&& 31)), .int (60)]) (c_low l D cI cJ _ ((z >>> (5 &&& 31))) 60 (s0) (by decide) (by decide) (e2)) C gL_mixes_L_low rfl (by decide +kernel) rfl ⟨Nat.le_of_ble_eq_true rfl, Nat.le_of_ble_eq_true rfl⟩ rfl (Nat.le_of_ble_eq_true rfl) ⟨by decide, by decide⟩ dL_mixes_27 ?_
  refine g_iaddN 1 s0 C dL_mixes_30 ?_
  refine g_istore [(11, .int (nI (1 + s0))), (10, .int (nI (tb))), (9, .int (nI (pt))), (0, .ref (h 0)), (1, .int (0)), (2, .int (z)), (3, .ref (g 1)), (4, .ref (g 2)), (5, .ref (g 3)), (6, .ref (g 4)), (7, .ref (g 5)), (8, .ref (g 7))] C dL_mixes_31 (by decide) rfl ?_
  refine g_aload_n 6 C rfl dL_mixes_33 rfl ?_
  refine g_iconst 3 C dL_mixes_34 (by decide) ?_
  refine g_iload 1 C rfl dL_mixes_35 ?_
  refine g_imulN 3 tb C dL_mixes_37 ?_
  refine g_iconst 1 C dL_mixes_38 (by decide) ?_
  refine g_iaddN (3 * tb) 1 C dL_mixes_39 ?_
  refine g_ialdN (cA := cI) (n := 18) (a := g 1) (f := τ.2 1) ((3 * tb) + 1) 14 0 C rfl rfl (by omega) (by decide) dL_mixes_40 ?_
  refine g_iload 0 C rfl dL_mixes_41 ?_
  refine g_icmp_lt 50 C dL_mixes_43 (by decide) (fun _ => ?_) (fun q => absurd (i32_nle_iff.mp hc) q)
  refine g_iconst 0 C dL_mixes_50 (by decide) ?_
  refine g_istore [(12, .int (0)), (11, .int (nI (1 + s0))), (10, .int (nI (tb))), (9, .int (nI (pt))), (0, .ref (h 0)), (1, .int (0)), (2, .int (z)), (3, .ref (g 1)), (4, .ref (g 2)), (5, .ref (g 3)), (6, .ref (g 4)), (7, .ref (g 5)), (8, .ref (g 7))] C dL_mixes_51 (by decide) rfl ?_
  refine g_aload_n 7 C rfl dL_mixes_53 rfl ?_
  refine g_iconst 3 C dL_mixes_54 (by decide) ?_
  refine g_iload 2 C rfl dL_mixes_55 ?_
  refine g_imulN 3 tb C dL_mixes_57 ?_
  refine g_iconst 1 C dL_mixes_58 (by decide) ?_
  refine g_iaddN (3 * tb) 1 C dL_mixes_59 ?_
  refine g_dup2 C dL_mixes_60 rfl rfl ?_
  refine g_ialdN (cA := cI) (n := 18) (a := g 1) (f := τ.2 1) ((3 * tb) + 1) 14 0 C rfl rfl (by omega) (by decide) dL_mixes_61 ?_
  refine g_iload 0 C rfl dL_mixes_62 ?_
  refine g_if_eq 72 C dL_mixes_64 (by decide) (fun _ => ?_) (fun q => absurd q (by decide))
  refine g_iconst 0 C dL_mixes_72 (by decide) ?_
  refine g_isub C dL_mixes_73 ?_
  refine g_iastN (cA := cI) (n := 18) (a := g 1) (f := τ.2 1) (x := ((τ.2 1 ((3 * tb) + 1)) - 0)) ((3 * tb) + 1) 14 0 (wB cI h g σ (sA τ 1 (upd (τ.2 1) ((3 * tb) + 1) (((τ.2 1 ((3 * tb) + 1)) - 0))))) C rfl rfl (by omega) (by decide) rfl dL_mixes_74 ?_
  refine g_aload 8 C rfl dL_mixes_75 ?_
  refine g_bipush 6 C dL_mixes_77 (by decide) ?_
  refine g_iload 3 C rfl dL_mixes_79 ?_
  refine g_imulN 6 pt C dL_mixes_81 ?_
  refine g_iload 2 C rfl dL_mixes_82 ?_
  refine g_iaddN (6 * pt) tb C dL_mixes_84 ?_
  refine g_dup2 C dL_mixes_85 rfl rfl ?_
  refine g_ialdN (cA := cI) (n := 24) (a := g 2) (f := τ.2 2) ((6 * pt) + tb) 15 0 C rfl rfl (by omega) (by decide) dL_mixes_86 ?_
  refine g_iload 0 C rfl dL_mixes_87 ?_
  refine g_if_eq 97 C dL_mixes_89 (by decide) (fun _ => ?_) (fun q => absurd q (by decide))
  refine g_iconst 0 C dL_mixes_97 (by decide) ?_
  refine g_iadd C dL_mixes_98 ?_
  refine g_iastN (cA := cI) (n := 24) (a := g 2) (f := τ.2 2) (x := ((τ.2 2 ((6 * pt) + tb)) + 0)) ((6 * pt) + tb) 15 0 (wB cI h g σ (sA (sA τ 1 (upd (τ.2 1) ((3 * tb) + 1) (((τ.2 1 ((3 * tb) + 1)) - 0)))) 2 (upd (τ.2 2) ((6 * pt) + tb) (((τ.2 2 ((6 * pt) + tb)) + 0))))) C rfl rfl (by omega) (by decide) rfl dL_mixes_99 ?_
  refine g_aload_n 4 C rfl dL_mixes_100 rfl ?_
  refine g_iconst 0 C dL_mixes_101 (by decide) ?_
  refine g_iload 3 C rfl dL_mixes_102 ?_
  refine g_iload 2 C rfl dL_mixes_104 ?_
  refine g_iload 1 C rfl dL_mixes_106 ?_
  refine g_bA (na := 5) (av := [.ref (h 0), .int (0), .int (nI (pt)), .int (nI (tb)), .int (nI (1 + s0))]) (k3_squeeze l D cI cJ hst h σ hI (pt) (tb) (nI (1 + s0))  (by omega) (by omega) hK) C gL_mixes_L_calls rfl (by decide +kernel) rfl ⟨Nat.le_of_ble_eq_true rfl, Nat.le_of_ble_eq_true rfl⟩ rfl (Nat.le_of_ble_eq_true rfl) ⟨by decide, by decide⟩ dL_mixes_108 ?_
  refine g_iload 0 C rfl dL_mixes_111 ?_
  refine g_if_eq 127 C dL_mixes_113 (by decide) (fun _ => ?_) (fun q => absurd q (by decide))
  refine g_sipush (-1003) C dL_mixes_127 (by decide) ?_
  refine g_icmp_ne 137 C dL_mixes_130 (by decide) (fun q => absurd q (by decide)) (fun _ => ?_)
  refine g_iconst 1 C dL_mixes_133 (by decide) ?_
  refine g_goto 138 C dL_mixes_134 (by decide) ?_
  exact g_iret C hr rfl dL_mixes_138 (by decide) (by decide) rfl rfl rfl
set_option maxRecDepth 100000 in
set_option maxHeartbeats 4000000 in
theorem x_pour0 (l : Launch) (D : va_G) (cI cJ : ClassId) (hst : l.stackTraces = false) (h g : Nat → Nat) (σ τ : gS) (hI : iA σ 4 6 4 4) (z : Int32) (pt : Nat) (e0 : lowN z 4 = pt) (hpt : pt < 4) (o0 ot s0 : Nat) (e1 : lowN (z >>> (3 &&& 31)) 3 = o0) (e2 : lowN (z >>> (5 &&& 31)) 50 = s0) (ho0 : o0 < 3) (hot : (pt + 1 + o0) % 4 = ot) (hot4 : ot < 4) (hs0 : s0 < 50) (hp : potOK τ pt) (hS : 1 + s0 ≤ potN τ pt 6) (hc : nI (1 + s0) ≤ potL τ pt 6) (hK : 0 = th_pour σ 6 4 (nI pt) (nI ot) (nI (1 + s0))) (hres : rowS (mvS σ 6 pt ot (nI (1 + s0))) ot 6 = potL (sA (sA τ 7 (fillF (τ.2 7) (flN τ pt (1 + s0)) 6)) 2 (addF (subF (τ.2 2) (fillF (τ.2 7) (flN τ pt (1 + s0)) 6) (6 * pt) 6) (fillF (τ.2 7) (flN τ pt (1 + s0)) 6) (6 * ot) 6)) ot 6) : MC l yL_mixes wsL_mixes 9 187 D (tyIJ cI cJ) [.ref (h 0), .int (1), .int (z), .ref (g 1), .ref (g 2), .ref (g 3), .ref (g 4), .ref (g 5), .ref (g 7)] (wB cI h g σ τ) (wB cI h g (sA σ 3 (mvS σ 6 pt ot (nI (1 + s0)))) (sA (sA τ 7 (fillF (τ.2 7) (flN τ pt (1 + s0)) 6)) 2 (addF (subF (τ.2 2) (fillF (τ.2 7) (flN τ pt (1 + s0)) 6) (6 * pt) 6) (fillF (τ.2 7) (flN τ pt (1 + s0)) 6) (6 * ot) 6))) none (some (.int 1)) 1 := by
  refine MC.ofG (cc := cL_mixes) (maxL := 19) (ret := (some .boolean)) [(0, .ref (h 0)), (1, .int (1)), (2, .int (z)), (3, .ref (g 1)), (4, .ref (g 2)), (5, .ref (g 3)), (6, .ref (g 4)), (7, .ref (g 5)), (8, .ref (g 7))] (by decide) rfl (Nat.le_of_ble_eq_true rfl) rfl ?_
  intro p e s m args below meth c C hr hout
  refine g_iload_n 2 C rfl dL_mixes_0 rfl ?_
  refine g_iconst 4 C dL_mixes_1 (by decide) ?_
  refine g_bS (na := 2) (av := [.int (z), .int (4)]) (c_low l D cI cJ _ (z) 4 (pt) (by decide) (by decide) (e0)) C gL_mixes_L_low rfl (by decide +kernel) rfl ⟨Nat.le_of_ble_eq_true rfl, Nat.le_of_ble_eq_true rfl⟩ rfl (Nat.le_of_ble_eq_true rfl) ⟨by decide, by decide⟩ dL_mixes_2 ?_
  refine g_istore [(9, .int (nI (pt))), (0, .ref (h 0)), (1, .int (1)), (2, .int (z)), (3, .ref (g 1)), (4, .ref (g 2)), (5, .ref (g 3)), (6, .ref (g 4)), (7, .ref (g 5)), (8, .ref (g 7))] C dL_mixes_5 (by decide) rfl ?_
  refine g_iload_n 2 C rfl dL_mixes_7 rfl ?_
  refine g_if_ne 139 C dL_mixes_8 (by decide) (fun _ => ?_) (fun q => absurd q (by decide))
  refine g_iload_n 2 C rfl dL_mixes_139 rfl ?_
  refine g_iconst 1 C dL_mixes_140 (by decide) ?_
  refine g_icmp_ne 280 C dL_mixes_141 (by decide) (fun q => absurd q (by decide)) (fun _ => ?_)
  refine g_iload 0 C rfl dL_mixes_144 ?_
  refine g_iconst 1 C dL_mixes_146 (by decide) ?_
  refine g_iaddN pt 1 C dL_mixes_147 ?_
  refine g_iload_n 3 C rfl dL_mixes_148 rfl ?_
  refine g_iconst 3 C dL_mixes_149 (by decide) ?_
  refine g_ishr C dL_mixes_150 ?_
  refine g_iconst 3 C dL_mixes_151 (by decide) ?_
  refine g_bS (na := 2) (av := [.int (z >>> (3 &&& 31)), .int (3)]) (c_low l D cI cJ _ ((z >>> (3 &&& 31))) 3 (o0) (by decide) (by decide) (e1)) C gL_mixes_L_low rfl (by decide +kernel) rfl ⟨Nat.le_of_ble_eq_true rfl, Nat.le_of_ble_eq_true rfl⟩ rfl (Nat.le_of_ble_eq_true rfl) ⟨by decide, by decide⟩ dL_mixes_152 ?_
  refine g_iaddN (pt + 1) o0 C dL_mixes_155 ?_
  refine g_iconst 4 C dL_mixes_156 (by decide) ?_
  refine g_iremN ((pt + 1) + o0) 4 C (by omega) (by omega) (by omega) dL_mixes_157 ?_
  refine g_is (nI ot) (by rw [hot]) ?_
  refine g_istore [(10, .int (nI (ot))), (9, .int (nI (pt))), (0, .ref (h 0)), (1, .int (1)), (2, .int (z)), (3, .ref (g 1)), (4, .ref (g 2)), (5, .ref (g 3)), (6, .ref (g 4)), (7, .ref (g 5)), (8, .ref (g 7))] C dL_mixes_158 (by decide) rfl ?_
  refine g_iconst 1 C dL_mixes_160 (by decide) ?_
  refine g_iload_n 4 C rfl dL_mixes_161 rfl ?_
  refine g_iconst 5 C dL_mixes_162 (by decide) ?_
  refine g_ishr C dL_mixes_163 ?_
  refine g_bipush 50 C dL_mixes_164 (by decide) ?_
  refine g_bS (na := 2) (av := [.int (z >>> (5 &&& 31)), .int (50)]) (c_low l D cI cJ _ ((z >>> (5 &&& 31))) 50 (s0) (by decide) (by decide) (e2)) C gL_mixes_L_low rfl (by decide +kernel) rfl ⟨Nat.le_of_ble_eq_true rfl, Nat.le_of_ble_eq_true rfl⟩ rfl (Nat.le_of_ble_eq_true rfl) ⟨by decide, by decide⟩ dL_mixes_166 ?_
  refine g_iaddN 1 s0 C dL_mixes_169 ?_
  refine g_istore [(11, .int (nI (1 + s0))), (10, .int (nI (ot))), (9, .int (nI (pt))), (0, .ref (h 0)), (1, .int (1)), (2, .int (z)), (3, .ref (g 1)), (4, .ref (g 2)), (5, .ref (g 3)), (6, .ref (g 4)), (7, .ref (g 5)), (8, .ref (g 7))] C dL_mixes_170 (by decide) rfl ?_
  refine g_iload 2 C rfl dL_mixes_172 ?_
  refine g_aload 7 C rfl dL_mixes_174 ?_
  refine g_bL (na := 2) (av := [.int (nI (pt)), .ref (g 2)]) (c_total l D cI cJ g τ pt (by omega)) C gL_mixes_L_total rfl (by decide +kernel) rfl ⟨Nat.le_of_ble_eq_true rfl, Nat.le_of_ble_eq_true rfl⟩ rfl (Nat.le_of_ble_eq_true rfl) ⟨by decide, by decide⟩ dL_mixes_176 ?_
  refine g_iload 0 C rfl dL_mixes_179 ?_
  refine g_icmp_lt 188 C dL_mixes_181 (by decide) (fun q => absurd q (i32_nlt hc)) (fun _ => ?_)
  refine g_iconst 1 C dL_mixes_184 (by decide) ?_
  refine g_goto 189 C dL_mixes_185 (by decide) ?_
  refine g_istore [(12, .int (1)), (11, .int (nI (1 + s0))), (10, .int (nI (ot))), (9, .int (nI (pt))), (0, .ref (h 0)), (1, .int (1)), (2, .int (z)), (3, .ref (g 1)), (4, .ref (g 2)), (5, .ref (g 3)), (6, .ref (g 4)), (7, .ref (g 5)), (8, .ref (g 7))] C dL_mixes_189 (by decide) rfl ?_
  refine g_iload 0 C rfl dL_mixes_191 ?_
  refine g_if_eq 242 C dL_mixes_193 (by decide) (fun q => absurd q (by decide)) (fun _ => ?_)
  refine g_iload 3 C rfl dL_mixes_196 ?_
  refine g_iload 1 C rfl dL_mixes_198 ?_
  refine g_aload 8 C rfl dL_mixes_200 ?_
  refine g_aload 12 C rfl dL_mixes_202 ?_
  refine g_bL (na := 4) (av := [.int (nI (pt)), .int (nI (1 + s0)), .ref (g 2), .ref (g 7)]) (c_flows l D cI cJ g τ pt (1 + s0) (by omega) (by omega) hp hS) C gL_mixes_L_flows rfl (by decide +kernel) rfl ⟨Nat.le_of_ble_eq_true rfl, Nat.le_of_ble_eq_true rfl⟩ rfl (Nat.le_of_ble_eq_true rfl) ⟨by decide, by decide⟩ dL_mixes_204 ?_
  refine g_w (wB cI h g σ (sA (sA τ 7 (fillF (τ.2 7) (flN τ pt (1 + s0)) 6)) 2 (subF (τ.2 2) (fillF (τ.2 7) (flN τ pt (1 + s0)) 6) (6 * pt) 6))) rfl ?_
  refine g_iconst 0 C dL_mixes_207 (by decide) ?_
  refine g_istore [(13, .int (0)), (12, .int (1)), (11, .int (nI (1 + s0))), (10, .int (nI (ot))), (9, .int (nI (pt))), (0, .ref (h 0)), (1, .int (1)), (2, .int (z)), (3, .ref (g 1)), (4, .ref (g 2)), (5, .ref (g 3)), (6, .ref (g 4)), (7, .ref (g 5)), (8, .ref (g 7))] C dL_mixes_208 (by decide) rfl ?_
  have loop_210 : ∀ (fu : Nat) (i : Nat), i ≤ 6 → 7 ≤ i + fu → G p l e ({ frames := 9, cells := 1, slots := 6 * 1, locals := 187 } : Room) s m args below meth c D (va_A (wB cI h g σ τ) s.heap.size) 19 0 0 (gQ below D (wB cI h g σ τ) (wB cI h g (sA σ 3 (mvS σ 6 pt ot (nI (1 + s0)))) (sA (sA τ 7 (fillF (τ.2 7) (flN τ pt (1 + s0)) 6)) 2 (addF (subF (τ.2 2) (fillF (τ.2 7) (flN τ pt (1 + s0)) 6) (6 * pt) 6) (fillF (τ.2 7) (flN τ pt (1 + s0)) 6) (6 * ot) 6))) none (some (.int 1)) 1 args s) (wB cI h g σ (sA (sA τ 7 (fillF (τ.2 7) (flN τ pt (1 + s0)) 6)) 2 (addF (subF (τ.2 2) (fillF (τ.2 7) (flN τ pt (1 + s0)) 6) (6 * pt) 6) (fillF (τ.2 7) (flN τ pt (1 + s0)) 6) (6 * ot) i))) [(0, .ref (h 0)), (4, .ref (g 2)), (8, .ref (g 7)), (9, .int (nI (pt))), (10, .int (nI (ot))), (11, .int (nI (1 + s0))), (12, .int (1)), (13, .int (nI (i)))] 210 [] := by
    intro fu
    induction fu with
    | zero => intro i hi hf; exact absurd True.intro (by omega)
    | succ fu ih_210 =>
      intro i hi hf
      refine g_iload 7 C rfl dL_mixes_210 ?_
      refine g_bipush 6 C dL_mixes_212 (by decide) ?_
      refine g_icmp_ge 242 C dL_mixes_214 (by decide) (fun c_214_1 => ?_) (fun c_214_1 => ?_)
      ·
        have d_214_1 : 6 ≤ i := (nI_leI (a := 6) (b := i) (by omega) (by omega)).mp c_214_1
        obtain rfl : i = 6 := by omega
        refine g_aload_n 0 C rfl dL_mixes_242 rfl ?_
        refine g_iconst 1 C dL_mixes_243 (by decide) ?_
        refine g_iload 3 C rfl dL_mixes_244 ?_
        refine g_iload 4 C rfl dL_mixes_246 ?_
        refine g_iload 5 C rfl dL_mixes_248 ?_
        refine g_bA (na := 5) (av := [.ref (h 0), .int (1), .int (nI (pt)), .int (nI (ot)), .int (nI (1 + s0))]) (k0_pour l D cI cJ hst h σ hI (pt) (ot) (nI (1 + s0))  (by omega) (by omega) hK) C gL_mixes_L_calls rfl (by decide +kernel) rfl ⟨Nat.le_of_ble_eq_true rfl, Nat.le_of_ble_eq_true rfl⟩ rfl (Nat.le_of_ble_eq_true rfl) ⟨by decide, by decide⟩ dL_mixes_250 ?_
        refine g_w (wB cI h g (sA σ 3 (mvS σ 6 pt ot (nI (1 + s0)))) (sA (sA τ 7 (fillF (τ.2 7) (flN τ pt (1 + s0)) 6)) 2 (addF (subF (τ.2 2) (fillF (τ.2 7) (flN τ pt (1 + s0)) 6) (6 * pt) 6) (fillF (τ.2 7) (flN τ pt (1 + s0)) 6) (6 * ot) 6))) rfl ?_
        refine g_iload 6 C rfl dL_mixes_253 ?_
        refine g_if_eq 268 C dL_mixes_255 (by decide) (fun q => absurd q (by decide)) (fun _ => ?_)
        refine g_iload 4 C rfl dL_mixes_258 ?_
        refine g_aload 1 C rfl dL_mixes_260 ?_
        refine g_bL (na := 2) (av := [.int (nI (ot)), .ref (g 2)]) (c_total l D cI cJ g (sA (sA τ 7 (fillF (τ.2 7) (flN τ pt (1 + s0)) 6)) 2 (addF (subF (τ.2 2) (fillF (τ.2 7) (flN τ pt (1 + s0)) 6) (6 * pt) 6) (fillF (τ.2 7) (flN τ pt (1 + s0)) 6) (6 * ot) 6)) ot (by omega)) C gL_mixes_L_total rfl (by decide +kernel) rfl ⟨Nat.le_of_ble_eq_true rfl, Nat.le_of_ble_eq_true rfl⟩ rfl (Nat.le_of_ble_eq_true rfl) ⟨by decide, by decide⟩ dL_mixes_262 ?_
        refine g_goto 271 C dL_mixes_265 (by decide) ?_
        refine g_icmp_ne 278 C dL_mixes_271 (by decide) (fun q => absurd hres q) (fun _ => ?_)
        refine g_iconst 1 C dL_mixes_274 (by decide) ?_
        refine g_goto 279 C dL_mixes_275 (by decide) ?_
        exact g_iret C hr rfl dL_mixes_279 (by decide) (by decide) rfl rfl rfl
      ·
        have d_214_1 : ¬ 6 ≤ i := fun zz => c_214_1 ((nI_leI (a := 6) (b := i) (by omega) (by omega)).mpr zz)
        refine g_aload 1 C rfl dL_mixes_217 ?_
        refine g_bipush 6 C dL_mixes_219 (by decide) ?_
        refine g_iload 4 C rfl dL_mixes_221 ?_
        refine g_imulN 6 ot C dL_mixes_223 ?_
        refine g_iload 7 C rfl dL_mixes_224 ?_
        refine g_iaddN (6 * ot) i C dL_mixes_226 ?_
        refine g_dup2 C dL_mixes_227 rfl rfl ?_
        refine g_ialdN (cA := cI) (n := 24) (a := g 2) (f := addF (subF (τ.2 2) (fillF (τ.2 7) (flN τ pt (1 + s0)) 6) (6 * pt) 6) (fillF (τ.2 7) (flN τ pt (1 + s0)) 6) (6 * ot) i) ((6 * ot) + i) 15 0 C rfl rfl (by omega) (by decide) dL_mixes_228 ?_
        refine g_aload 2 C rfl dL_mixes_229 ?_
        refine g_iload 7 C rfl dL_mixes_231 ?_
        refine g_ialdN (cA := cI) (n := 6) (a := g 7) (f := fillF (τ.2 7) (flN τ pt (1 + s0)) 6) i 20 0 C rfl rfl (by omega) (by decide) dL_mixes_233 ?_
        refine g_iadd C dL_mixes_234 ?_
        refine g_iastN (cA := cI) (n := 24) (a := g 2) (f := addF (subF (τ.2 2) (fillF (τ.2 7) (flN τ pt (1 + s0)) 6) (6 * pt) 6) (fillF (τ.2 7) (flN τ pt (1 + s0)) 6) (6 * ot) i) (x := (((addF (subF (τ.2 2) (fillF (τ.2 7) (flN τ pt (1 + s0)) 6) (6 * pt) 6) (fillF (τ.2 7) (flN τ pt (1 + s0)) 6) (6 * ot) i) ((6 * ot) + i)) + ((fillF (τ.2 7) (flN τ pt (1 + s0)) 6) i))) ((6 * ot) + i) 15 0 (wB cI h g σ (sA (sA τ 7 (fillF (τ.2 7) (flN τ pt (1 + s0)) 6)) 2 (upd (addF (subF (τ.2 2) (fillF (τ.2 7) (flN τ pt (1 + s0)) 6) (6 * pt) 6) (fillF (τ.2 7) (flN τ pt (1 + s0)) 6) (6 * ot) i) ((6 * ot) + i) ((((addF (subF (τ.2 2) (fillF (τ.2 7) (flN τ pt (1 + s0)) 6) (6 * pt) 6) (fillF (τ.2 7) (flN τ pt (1 + s0)) 6) (6 * ot) i) ((6 * ot) + i)) + ((fillF (τ.2 7) (flN τ pt (1 + s0)) 6) i)))))) C rfl rfl (by omega) (by decide) rfl dL_mixes_235 ?_
        refine g_iincN 7 i 1 [(13, .int (nI (i + 1))), (0, .ref (h 0)), (4, .ref (g 2)), (8, .ref (g 7)), (9, .int (nI (pt))), (10, .int (nI (ot))), (11, .int (nI (1 + s0))), (12, .int (1))] C dL_mixes_236 rfl (by decide) (by decide) rfl ?_
        refine g_goto 210 C dL_mixes_239 (by decide) ?_
        refine g_lv [1, 2, 3, 4, 5, 6, 7, 0] [(0, .ref (h 0)), (4, .ref (g 2)), (8, .ref (g 7)), (9, .int (nI (pt))), (10, .int (nI (ot))), (11, .int (nI (1 + s0))), (12, .int (1)), (13, .int (nI (i + 1)))] rfl ?_
        exact ih_210 (i + 1) (by omega) (by omega)
  refine g_lv [5, 9, 13, 4, 3, 2, 1, 0] [(0, .ref (h 0)), (4, .ref (g 2)), (8, .ref (g 7)), (9, .int (nI (pt))), (10, .int (nI (ot))), (11, .int (nI (1 + s0))), (12, .int (1)), (13, .int (0))] rfl ?_
  exact loop_210 7 0 (by omega) (by omega)
set_option maxRecDepth 100000 in
set_option maxHeartbeats 4000000 in
theorem x_pour3 (l : Launch) (D : va_G) (cI cJ : ClassId) (hst : l.stackTraces = false) (h g : Nat → Nat) (σ τ : gS) (hI : iA σ 4 6 4 4) (z : Int32) (pt : Nat) (e0 : lowN z 4 = pt) (hpt : pt < 4) (o0 ot s0 : Nat) (e1 : lowN (z >>> (3 &&& 31)) 3 = o0) (e2 : lowN (z >>> (5 &&& 31)) 50 = s0) (ho0 : o0 < 3) (hot : (pt + 1 + o0) % 4 = ot) (hot4 : ot < 4) (hs0 : s0 < 50) (hc : ¬ nI (1 + s0) ≤ potL τ pt 6) (hK : 3 = th_pour σ 6 4 (nI pt) (nI ot) (nI (1 + s0))) : MC l yL_mixes wsL_mixes 9 187 D (tyIJ cI cJ) [.ref (h 0), .int (1), .int (z), .ref (g 1), .ref (g 2), .ref (g 3), .ref (g 4), .ref (g 5), .ref (g 7)] (wB cI h g σ τ) (wB cI h g σ τ) none (some (.int 1)) 1 := by
  refine MC.ofG (cc := cL_mixes) (maxL := 19) (ret := (some .boolean)) [(0, .ref (h 0)), (1, .int (1)), (2, .int (z)), (3, .ref (g 1)), (4, .ref (g 2)), (5, .ref (g 3)), (6, .ref (g 4)), (7, .ref (g 5)), (8, .ref (g 7))] (by decide) rfl (Nat.le_of_ble_eq_true rfl) rfl ?_
  intro p e s m args below meth c C hr hout
  refine g_iload_n 2 C rfl dL_mixes_0 rfl ?_
  refine g_iconst 4 C dL_mixes_1 (by decide) ?_
  refine g_bS (na := 2) (av := [.int (z), .int (4)]) (c_low l D cI cJ _ (z) 4 (pt) (by decide) (by decide) (e0)) C gL_mixes_L_low rfl (by decide +kernel) rfl ⟨Nat.le_of_ble_eq_true rfl, Nat.le_of_ble_eq_true rfl⟩ rfl (Nat.le_of_ble_eq_true rfl) ⟨by decide, by decide⟩ dL_mixes_2 ?_
  refine g_istore [(9, .int (nI (pt))), (0, .ref (h 0)), (1, .int (1)), (2, .int (z)), (3, .ref (g 1)), (4, .ref (g 2)), (5, .ref (g 3)), (6, .ref (g 4)), (7, .ref (g 5)), (8, .ref (g 7))] C dL_mixes_5 (by decide) rfl ?_
  refine g_iload_n 2 C rfl dL_mixes_7 rfl ?_
  refine g_if_ne 139 C dL_mixes_8 (by decide) (fun _ => ?_) (fun q => absurd q (by decide))
  refine g_iload_n 2 C rfl dL_mixes_139 rfl ?_
  refine g_iconst 1 C dL_mixes_140 (by decide) ?_
  refine g_icmp_ne 280 C dL_mixes_141 (by decide) (fun q => absurd q (by decide)) (fun _ => ?_)
  refine g_iload 0 C rfl dL_mixes_144 ?_
  refine g_iconst 1 C dL_mixes_146 (by decide) ?_
  refine g_iaddN pt 1 C dL_mixes_147 ?_
  refine g_iload_n 3 C rfl dL_mixes_148 rfl ?_
  refine g_iconst 3 C dL_mixes_149 (by decide) ?_
  refine g_ishr C dL_mixes_150 ?_
  refine g_iconst 3 C dL_mixes_151 (by decide) ?_
  refine g_bS (na := 2) (av := [.int (z >>> (3 &&& 31)), .int (3)]) (c_low l D cI cJ _ ((z >>> (3 &&& 31))) 3 (o0) (by decide) (by decide) (e1)) C gL_mixes_L_low rfl (by decide +kernel) rfl ⟨Nat.le_of_ble_eq_true rfl, Nat.le_of_ble_eq_true rfl⟩ rfl (Nat.le_of_ble_eq_true rfl) ⟨by decide, by decide⟩ dL_mixes_152 ?_
  refine g_iaddN (pt + 1) o0 C dL_mixes_155 ?_
  refine g_iconst 4 C dL_mixes_156 (by decide) ?_
  refine g_iremN ((pt + 1) + o0) 4 C (by omega) (by omega) (by omega) dL_mixes_157 ?_
  refine g_is (nI ot) (by rw [hot]) ?_
  refine g_istore [(10, .int (nI (ot))), (9, .int (nI (pt))), (0, .ref (h 0)), (1, .int (1)), (2, .int (z)), (3, .ref (g 1)), (4, .ref (g 2)), (5, .ref (g 3)), (6, .ref (g 4)), (7, .ref (g 5)), (8, .ref (g 7))] C dL_mixes_158 (by decide) rfl ?_
  refine g_iconst 1 C dL_mixes_160 (by decide) ?_
  refine g_iload_n 4 C rfl dL_mixes_161 rfl ?_
  refine g_iconst 5 C dL_mixes_162 (by decide) ?_
  refine g_ishr C dL_mixes_163 ?_
  refine g_bipush 50 C dL_mixes_164 (by decide) ?_
  refine g_bS (na := 2) (av := [.int (z >>> (5 &&& 31)), .int (50)]) (c_low l D cI cJ _ ((z >>> (5 &&& 31))) 50 (s0) (by decide) (by decide) (e2)) C gL_mixes_L_low rfl (by decide +kernel) rfl ⟨Nat.le_of_ble_eq_true rfl, Nat.le_of_ble_eq_true rfl⟩ rfl (Nat.le_of_ble_eq_true rfl) ⟨by decide, by decide⟩ dL_mixes_166 ?_
  refine g_iaddN 1 s0 C dL_mixes_169 ?_
  refine g_istore [(11, .int (nI (1 + s0))), (10, .int (nI (ot))), (9, .int (nI (pt))), (0, .ref (h 0)), (1, .int (1)), (2, .int (z)), (3, .ref (g 1)), (4, .ref (g 2)), (5, .ref (g 3)), (6, .ref (g 4)), (7, .ref (g 5)), (8, .ref (g 7))] C dL_mixes_170 (by decide) rfl ?_
  refine g_iload 2 C rfl dL_mixes_172 ?_
  refine g_aload 7 C rfl dL_mixes_174 ?_
  refine g_bL (na := 2) (av := [.int (nI (pt)), .ref (g 2)]) (c_total l D cI cJ g τ pt (by omega)) C gL_mixes_L_total rfl (by decide +kernel) rfl ⟨Nat.le_of_ble_eq_true rfl, Nat.le_of_ble_eq_true rfl⟩ rfl (Nat.le_of_ble_eq_true rfl) ⟨by decide, by decide⟩ dL_mixes_176 ?_
  refine g_iload 0 C rfl dL_mixes_179 ?_
  refine g_icmp_lt 188 C dL_mixes_181 (by decide) (fun _ => ?_) (fun q => absurd (i32_nle_iff.mp hc) q)
  refine g_iconst 0 C dL_mixes_188 (by decide) ?_
  refine g_istore [(12, .int (0)), (11, .int (nI (1 + s0))), (10, .int (nI (ot))), (9, .int (nI (pt))), (0, .ref (h 0)), (1, .int (1)), (2, .int (z)), (3, .ref (g 1)), (4, .ref (g 2)), (5, .ref (g 3)), (6, .ref (g 4)), (7, .ref (g 5)), (8, .ref (g 7))] C dL_mixes_189 (by decide) rfl ?_
  refine g_iload 0 C rfl dL_mixes_191 ?_
  refine g_if_eq 242 C dL_mixes_193 (by decide) (fun _ => ?_) (fun q => absurd q (by decide))
  refine g_aload_n 4 C rfl dL_mixes_242 rfl ?_
  refine g_iconst 1 C dL_mixes_243 (by decide) ?_
  refine g_iload 3 C rfl dL_mixes_244 ?_
  refine g_iload 2 C rfl dL_mixes_246 ?_
  refine g_iload 1 C rfl dL_mixes_248 ?_
  refine g_bA (na := 5) (av := [.ref (h 0), .int (1), .int (nI (pt)), .int (nI (ot)), .int (nI (1 + s0))]) (k3_pour l D cI cJ hst h σ hI (pt) (ot) (nI (1 + s0))  (by omega) (by omega) hK) C gL_mixes_L_calls rfl (by decide +kernel) rfl ⟨Nat.le_of_ble_eq_true rfl, Nat.le_of_ble_eq_true rfl⟩ rfl (Nat.le_of_ble_eq_true rfl) ⟨by decide, by decide⟩ dL_mixes_250 ?_
  refine g_iload 0 C rfl dL_mixes_253 ?_
  refine g_if_eq 268 C dL_mixes_255 (by decide) (fun _ => ?_) (fun q => absurd q (by decide))
  refine g_sipush (-1003) C dL_mixes_268 (by decide) ?_
  refine g_icmp_ne 278 C dL_mixes_271 (by decide) (fun q => absurd q (by decide)) (fun _ => ?_)
  refine g_iconst 1 C dL_mixes_274 (by decide) ?_
  refine g_goto 279 C dL_mixes_275 (by decide) ?_
  exact g_iret C hr rfl dL_mixes_279 (by decide) (by decide) rfl rfl rfl
set_option maxRecDepth 100000 in
set_option maxHeartbeats 4000000 in
theorem x_scrape (l : Launch) (D : va_G) (cI cJ : ClassId) (hst : l.stackTraces = false) (h g : Nat → Nat) (σ τ : gS) (hI : iA σ 4 6 4 4) (z : Int32) (pt : Nat) (e0 : lowN z 4 = pt) (hpt : pt < 4) (hK : 0 = th_scrape 4 (nI pt)) (hres : rowS (σ.2 3) pt 6 = potL τ pt 6) : MC l yL_mixes wsL_mixes 9 187 D (tyIJ cI cJ) [.ref (h 0), .int (2), .int (z), .ref (g 1), .ref (g 2), .ref (g 3), .ref (g 4), .ref (g 5), .ref (g 7)] (wB cI h g σ τ) (wB cI h g (sA σ 3 (wzL (σ.2 3) pt 6)) (sA (sA τ 1 (wasT (τ.2 1) (fun n => τ.2 2 (6 * pt + n)) 6)) 2 (zerB (τ.2 2) (6 * pt) 6))) none (some (.int 1)) 0 := by
  refine MC.ofG (cc := cL_mixes) (maxL := 19) (ret := (some .boolean)) [(0, .ref (h 0)), (1, .int (2)), (2, .int (z)), (3, .ref (g 1)), (4, .ref (g 2)), (5, .ref (g 3)), (6, .ref (g 4)), (7, .ref (g 5)), (8, .ref (g 7))] (by decide) rfl (Nat.le_of_ble_eq_true rfl) rfl ?_
  intro p e s m args below meth c C hr hout
  refine g_iload_n 2 C rfl dL_mixes_0 rfl ?_
  refine g_iconst 4 C dL_mixes_1 (by decide) ?_
  refine g_bS (na := 2) (av := [.int (z), .int (4)]) (c_low l D cI cJ _ (z) 4 (pt) (by decide) (by decide) (e0)) C gL_mixes_L_low rfl (by decide +kernel) rfl ⟨Nat.le_of_ble_eq_true rfl, Nat.le_of_ble_eq_true rfl⟩ rfl (Nat.le_of_ble_eq_true rfl) ⟨Nat.zero_le _, Nat.zero_le _⟩ dL_mixes_2 ?_
  refine g_istore [(9, .int (nI (pt))), (0, .ref (h 0)), (1, .int (2)), (2, .int (z)), (3, .ref (g 1)), (4, .ref (g 2)), (5, .ref (g 3)), (6, .ref (g 4)), (7, .ref (g 5)), (8, .ref (g 7))] C dL_mixes_5 (by decide) rfl ?_
  refine g_iload_n 2 C rfl dL_mixes_7 rfl ?_
  refine g_if_ne 139 C dL_mixes_8 (by decide) (fun _ => ?_) (fun q => absurd q (by decide))
  refine g_iload_n 2 C rfl dL_mixes_139 rfl ?_
  refine g_iconst 1 C dL_mixes_140 (by decide) ?_
  refine g_icmp_ne 280 C dL_mixes_141 (by decide) (fun _ => ?_) (fun q => absurd q (by decide))
  refine g_iload_n 2 C rfl dL_mixes_280 rfl ?_
  refine g_iconst 2 C dL_mixes_281 (by decide) ?_
  refine g_icmp_ne 361 C dL_mixes_282 (by decide) (fun q => absurd q (by decide)) (fun _ => ?_)
  refine g_iload 0 C rfl dL_mixes_285 ?_
  refine g_aload 5 C rfl dL_mixes_287 ?_
  refine g_bL (na := 2) (av := [.int (nI (pt)), .ref (g 2)]) (c_total l D cI cJ g τ pt (by omega)) C gL_mixes_L_total rfl (by decide +kernel) rfl ⟨Nat.le_of_ble_eq_true rfl, Nat.le_of_ble_eq_true rfl⟩ rfl (Nat.le_of_ble_eq_true rfl) ⟨Nat.zero_le _, Nat.zero_le _⟩ dL_mixes_289 ?_
  refine g_istore [(10, .int (potL τ pt 6)), (9, .int (nI (pt))), (0, .ref (h 0)), (1, .int (2)), (2, .int (z)), (3, .ref (g 1)), (4, .ref (g 2)), (5, .ref (g 3)), (6, .ref (g 4)), (7, .ref (g 5)), (8, .ref (g 7))] C dL_mixes_292 (by decide) rfl ?_
  refine g_iconst 0 C dL_mixes_294 (by decide) ?_
  refine g_istore [(11, .int (0)), (10, .int (potL τ pt 6)), (9, .int (nI (pt))), (0, .ref (h 0)), (1, .int (2)), (2, .int (z)), (3, .ref (g 1)), (4, .ref (g 2)), (5, .ref (g 3)), (6, .ref (g 4)), (7, .ref (g 5)), (8, .ref (g 7))] C dL_mixes_295 (by decide) rfl ?_
  have loop_297 : ∀ (fu : Nat) (i : Nat), i ≤ 6 → 7 ≤ i + fu → G p l e ({ frames := 9, cells := 0, slots := 6 * 0, locals := 187 } : Room) s m args below meth c D (va_A (wB cI h g σ τ) s.heap.size) 19 0 0 (gQ below D (wB cI h g σ τ) (wB cI h g (sA σ 3 (wzL (σ.2 3) pt 6)) (sA (sA τ 1 (wasT (τ.2 1) (fun n => τ.2 2 (6 * pt + n)) 6)) 2 (zerB (τ.2 2) (6 * pt) 6))) none (some (.int 1)) 0 args s) (wB cI h g σ (sA (sA τ 1 (wasT (τ.2 1) (fun n => τ.2 2 (6 * pt + n)) i)) 2 (zerB (τ.2 2) (6 * pt) i))) [(0, .ref (h 0)), (3, .ref (g 1)), (4, .ref (g 2)), (9, .int (nI (pt))), (10, .int (potL τ pt 6)), (11, .int (nI (i)))] 297 [] := by
    intro fu
    induction fu with
    | zero => intro i hi hf; exact absurd True.intro (by omega)
    | succ fu ih_297 =>
      intro i hi hf
      refine g_iload 5 C rfl dL_mixes_297 ?_
      refine g_bipush 6 C dL_mixes_299 (by decide) ?_
      refine g_icmp_ge 344 C dL_mixes_301 (by decide) (fun c_301_1 => ?_) (fun c_301_1 => ?_)
      ·
        have d_301_1 : 6 ≤ i := (nI_leI (a := 6) (b := i) (by omega) (by omega)).mp c_301_1
        refine g_aload_n 0 C rfl dL_mixes_344 rfl ?_
        refine g_iload 3 C rfl dL_mixes_345 ?_
        refine g_bV (na := 1) (As := [.int (nI (pt))]) (c_scrape l D cI cJ hst h σ 4 6 4 4 hI (nI pt) 0 hK) C gL_mixes_X0_scrape rfl (by decide +kernel) rfl ⟨Nat.le_of_ble_eq_true rfl, Nat.le_of_ble_eq_true rfl⟩ rfl (Nat.le_of_ble_eq_true rfl) ⟨Nat.zero_le _, Nat.zero_le _⟩ dL_mixes_347 ?_
        refine g_w (wB cI h g (sA σ 3 (wzL (σ.2 3) (cl (nI pt)) 6)) (sA (sA τ 1 (wasT (τ.2 1) (fun n => τ.2 2 (6 * pt + n)) i)) 2 (zerB (τ.2 2) (6 * pt) i))) rfl ?_
        refine g_is ((rowS (σ.2 3) pt 6)) (by rw [cl_nI (by omega)]) ?_
        refine g_iload 4 C rfl dL_mixes_350 ?_
        refine g_icmp_ne 359 C dL_mixes_352 (by decide) (fun q => absurd hres q) (fun _ => ?_)
        refine g_iconst 1 C dL_mixes_355 (by decide) ?_
        refine g_goto 360 C dL_mixes_356 (by decide) ?_
        exact g_iret C hr rfl dL_mixes_360 (Nat.zero_le _) (Nat.zero_le _) rfl rfl (by rw [cl_nI (show pt < 2 ^ 31 by omega), show i = 6 by omega])
      ·
        have d_301_1 : ¬ 6 ≤ i := fun zz => c_301_1 ((nI_leI (a := 6) (b := i) (by omega) (by omega)).mpr zz)
        refine g_aload_n 1 C rfl dL_mixes_304 rfl ?_
        refine g_iconst 3 C dL_mixes_305 (by decide) ?_
        refine g_iload 5 C rfl dL_mixes_306 ?_
        refine g_imulN 3 i C dL_mixes_308 ?_
        refine g_iconst 2 C dL_mixes_309 (by decide) ?_
        refine g_iaddN (3 * i) 2 C dL_mixes_310 ?_
        refine g_dup2 C dL_mixes_311 rfl rfl ?_
        refine g_ialdN (cA := cI) (n := 18) (a := g 1) (f := wasT (τ.2 1) (fun n => τ.2 2 (6 * pt + n)) i) ((3 * i) + 2) 14 0 C rfl rfl (by omega) (by decide) dL_mixes_312 ?_
        refine g_aload 2 C rfl dL_mixes_313 ?_
        refine g_bipush 6 C dL_mixes_315 (by decide) ?_
        refine g_iload 3 C rfl dL_mixes_317 ?_
        refine g_imulN 6 pt C dL_mixes_319 ?_
        refine g_iload 5 C rfl dL_mixes_320 ?_
        refine g_iaddN (6 * pt) i C dL_mixes_322 ?_
        refine g_ialdN (cA := cI) (n := 24) (a := g 2) (f := zerB (τ.2 2) (6 * pt) i) ((6 * pt) + i) 15 0 C rfl rfl (by omega) (by decide) dL_mixes_323 ?_
        refine g_is ((τ.2 2 (6 * pt + i))) (zerB_at _ _ _ _ (Nat.le_refl i)) ?_
        refine g_iadd C dL_mixes_324 ?_
        refine g_iastN (cA := cI) (n := 18) (a := g 1) (f := wasT (τ.2 1) (fun n => τ.2 2 (6 * pt + n)) i) (x := (((wasT (τ.2 1) (fun n => τ.2 2 (6 * pt + n)) i) ((3 * i) + 2)) + (τ.2 2 (6 * pt + i)))) ((3 * i) + 2) 14 0 (wB cI h g σ (sA (sA τ 1 (upd (wasT (τ.2 1) (fun n => τ.2 2 (6 * pt + n)) i) ((3 * i) + 2) ((((wasT (τ.2 1) (fun n => τ.2 2 (6 * pt + n)) i) ((3 * i) + 2)) + (τ.2 2 (6 * pt + i)))))) 2 (zerB (τ.2 2) (6 * pt) i))) C rfl rfl (by omega) (by decide) rfl dL_mixes_325 ?_
        refine g_aload 2 C rfl dL_mixes_326 ?_
        refine g_bipush 6 C dL_mixes_328 (by decide) ?_
        refine g_iload 3 C rfl dL_mixes_330 ?_
        refine g_imulN 6 pt C dL_mixes_332 ?_
        refine g_iload 5 C rfl dL_mixes_333 ?_
        refine g_iaddN (6 * pt) i C dL_mixes_335 ?_
        refine g_iconst 0 C dL_mixes_336 (by decide) ?_
        refine g_iastN (cA := cI) (n := 24) (a := g 2) (f := zerB (τ.2 2) (6 * pt) i) (x := 0) ((6 * pt) + i) 15 0 (wB cI h g σ (sA (sA τ 1 (upd (wasT (τ.2 1) (fun n => τ.2 2 (6 * pt + n)) i) ((3 * i) + 2) ((((wasT (τ.2 1) (fun n => τ.2 2 (6 * pt + n)) i) ((3 * i) + 2)) + (τ.2 2 (6 * pt + i)))))) 2 (upd (zerB (τ.2 2) (6 * pt) i) ((6 * pt) + i) (0)))) C rfl rfl (by omega) (by decide) rfl dL_mixes_337 ?_
        refine g_iincN 5 i 1 [(11, .int (nI (i + 1))), (0, .ref (h 0)), (3, .ref (g 1)), (4, .ref (g 2)), (9, .int (nI (pt))), (10, .int (potL τ pt 6))] C dL_mixes_338 rfl (by decide) (by decide) rfl ?_
        refine g_goto 297 C dL_mixes_341 (by decide) ?_
        refine g_lv [1, 2, 3, 4, 5, 0] [(0, .ref (h 0)), (3, .ref (g 1)), (4, .ref (g 2)), (9, .int (nI (pt))), (10, .int (potL τ pt 6)), (11, .int (nI (i + 1)))] rfl ?_
        exact ih_297 (i + 1) (by omega) (by omega)
  refine g_lv [3, 6, 7, 2, 1, 0] [(0, .ref (h 0)), (3, .ref (g 1)), (4, .ref (g 2)), (9, .int (nI (pt))), (10, .int (potL τ pt 6)), (11, .int (0))] rfl ?_
  exact loop_297 7 0 (by omega) (by omega)
set_option maxRecDepth 100000 in
set_option maxHeartbeats 4000000 in
theorem x_paintF (l : Launch) (D : va_G) (cI cJ : ClassId) (hst : l.stackTraces = false) (h g : Nat → Nat) (σ τ : gS) (hI : iA σ 4 6 4 4) (z : Int32) (pt : Nat) (e0 : lowN z 4 = pt) (hpt : pt < 4) (q s0 ly : Nat) (e1 : lowN (z >>> (3 &&& 31)) 4 = q) (e2 : lowN (z >>> (5 &&& 31)) 40 = s0) (hq : q < 4) (hs0 : s0 < 40) (el : τ.2 5 (7 * q) = nI ly) (hl : ly = 3) (hh : τ.2 5 (7 * q + 3) = 0 ∨ ¬ τ.2 5 (7 * q + 3) = 0) : MC l yL_mixes wsL_mixes 9 187 D (tyIJ cI cJ) [.ref (h 0), .int (3), .int (z), .ref (g 1), .ref (g 2), .ref (g 3), .ref (g 4), .ref (g 5), .ref (g 7)] (wB cI h g σ τ) (wB cI h g σ τ) none (some (.int 1)) 0 := by
  refine MC.ofG (cc := cL_mixes) (maxL := 19) (ret := (some .boolean)) [(0, .ref (h 0)), (1, .int (3)), (2, .int (z)), (3, .ref (g 1)), (4, .ref (g 2)), (5, .ref (g 3)), (6, .ref (g 4)), (7, .ref (g 5)), (8, .ref (g 7))] (by decide) rfl (Nat.le_of_ble_eq_true rfl) rfl ?_
  intro p e s m args below meth c C hr hout
  refine g_iload_n 2 C rfl dL_mixes_0 rfl ?_
  refine g_iconst 4 C dL_mixes_1 (by decide) ?_
  refine g_bS (na := 2) (av := [.int (z), .int (4)]) (c_low l D cI cJ _ (z) 4 (pt) (by decide) (by decide) (e0)) C gL_mixes_L_low rfl (by decide +kernel) rfl ⟨Nat.le_of_ble_eq_true rfl, Nat.le_of_ble_eq_true rfl⟩ rfl (Nat.le_of_ble_eq_true rfl) ⟨Nat.zero_le _, Nat.zero_le _⟩ dL_mixes_2 ?_
  refine g_istore [(9, .int (nI (pt))), (0, .ref (h 0)), (1, .int (3)), (2, .int (z)), (3, .ref (g 1)), (4, .ref (g 2)), (5, .ref (g 3)), (6, .ref (g 4)), (7, .ref (g 5)), (8, .ref (g 7))] C dL_mixes_5 (by decide) rfl ?_
  refine g_iload_n 2 C rfl dL_mixes_7 rfl ?_
  refine g_if_ne 139 C dL_mixes_8 (by decide) (fun _ => ?_) (fun q => absurd q (by decide))
  refine g_iload_n 2 C rfl dL_mixes_139 rfl ?_
  refine g_iconst 1 C dL_mixes_140 (by decide) ?_
  refine g_icmp_ne 280 C dL_mixes_141 (by decide) (fun _ => ?_) (fun q => absurd q (by decide))
  refine g_iload_n 2 C rfl dL_mixes_280 rfl ?_
  refine g_iconst 2 C dL_mixes_281 (by decide) ?_
  refine g_icmp_ne 361 C dL_mixes_282 (by decide) (fun _ => ?_) (fun q => absurd q (by decide))
  refine g_iload_n 3 C rfl dL_mixes_361 rfl ?_
  refine g_iconst 3 C dL_mixes_362 (by decide) ?_
  refine g_ishr C dL_mixes_363 ?_
  refine g_iconst 4 C dL_mixes_364 (by decide) ?_
  refine g_bS (na := 2) (av := [.int (z >>> (3 &&& 31)), .int (4)]) (c_low l D cI cJ _ ((z >>> (3 &&& 31))) 4 (q) (by decide) (by decide) (e1)) C gL_mixes_L_low rfl (by decide +kernel) rfl ⟨Nat.le_of_ble_eq_true rfl, Nat.le_of_ble_eq_true rfl⟩ rfl (Nat.le_of_ble_eq_true rfl) ⟨Nat.zero_le _, Nat.zero_le _⟩ dL_mixes_365 ?_
  refine g_istore [(10, .int (nI (q))), (9, .int (nI (pt))), (0, .ref (h 0)), (1, .int (3)), (2, .int (z)), (3, .ref (g 1)), (4, .ref (g 2)), (5, .ref (g 3)), (6, .ref (g 4)), (7, .ref (g 5)), (8, .ref (g 7))] C dL_mixes_368 (by decide) rfl ?_
  refine g_aload 9 C rfl dL_mixes_370 ?_
  refine g_bipush 7 C dL_mixes_372 (by decide) ?_
  refine g_iload 0 C rfl dL_mixes_374 ?_
  refine g_imulN 7 q C dL_mixes_376 ?_
  refine g_ialdN (cA := cI) (n := 28) (a := g 5) (f := τ.2 5) (7 * q) 18 0 C rfl rfl (by omega) (by decide) dL_mixes_377 ?_
  refine g_is (nI (ly)) el ?_
  refine g_istore [(11, .int (nI (ly))), (10, .int (nI (q))), (9, .int (nI (pt))), (0, .ref (h 0)), (1, .int (3)), (2, .int (z)), (3, .ref (g 1)), (4, .ref (g 2)), (5, .ref (g 3)), (6, .ref (g 4)), (7, .ref (g 5)), (8, .ref (g 7))] C dL_mixes_378 (by decide) rfl ?_
  refine g_aload 10 C rfl dL_mixes_380 ?_
  refine g_bipush 7 C dL_mixes_382 (by decide) ?_
  refine g_iload 1 C rfl dL_mixes_384 ?_
  refine g_imulN 7 q C dL_mixes_386 ?_
  refine g_iconst 3 C dL_mixes_387 (by decide) ?_
  refine g_iaddN (7 * q) 3 C dL_mixes_388 ?_
  refine g_ialdN (cA := cI) (n := 28) (a := g 5) (f := τ.2 5) ((7 * q) + 3) 18 0 C rfl rfl (by omega) (by decide) dL_mixes_389 ?_
  refine g_if_ne 397 C dL_mixes_390 (by decide) (fun c_390_1 => ?_) (fun c_390_1 => ?_)
  ·
    refine g_iconst 0 C dL_mixes_397 (by decide) ?_
    refine g_istore [(12, .int (0)), (11, .int (nI (ly))), (10, .int (nI (q))), (9, .int (nI (pt))), (0, .ref (h 0)), (1, .int (3)), (2, .int (z)), (3, .ref (g 1)), (4, .ref (g 2)), (5, .ref (g 3)), (6, .ref (g 4)), (7, .ref (g 5)), (8, .ref (g 7))] C dL_mixes_398 (by decide) rfl ?_
    refine g_iload_n 5 C rfl dL_mixes_400 rfl ?_
    refine g_iconst 3 C dL_mixes_401 (by decide) ?_
    refine g_icmp_ne 574 C dL_mixes_402 (by decide) (fun q => absurd q (by decide)) (fun _ => ?_)
    refine g_iconst 1 C dL_mixes_405 (by decide) ?_
    refine g_iload_n 6 C rfl dL_mixes_406 rfl ?_
    refine g_iconst 5 C dL_mixes_407 (by decide) ?_
    refine g_ishr C dL_mixes_408 ?_
    refine g_bipush 40 C dL_mixes_409 (by decide) ?_
    refine g_bS (na := 2) (av := [.int (z >>> (5 &&& 31)), .int (40)]) (c_low l D cI cJ _ ((z >>> (5 &&& 31))) 40 (s0) (by decide) (by decide) (e2)) C gL_mixes_L_low rfl (by decide +kernel) rfl ⟨Nat.le_of_ble_eq_true rfl, Nat.le_of_ble_eq_true rfl⟩ rfl (Nat.le_of_ble_eq_true rfl) ⟨Nat.zero_le _, Nat.zero_le _⟩ dL_mixes_411 ?_
    refine g_iaddN 1 s0 C dL_mixes_414 ?_
    refine g_istore [(13, .int (nI (1 + s0))), (12, .int (0)), (11, .int (nI (ly))), (10, .int (nI (q))), (9, .int (nI (pt))), (0, .ref (h 0)), (1, .int (3)), (2, .int (z)), (3, .ref (g 1)), (4, .ref (g 2)), (5, .ref (g 3)), (6, .ref (g 4)), (7, .ref (g 5)), (8, .ref (g 7))] C dL_mixes_415 (by decide) rfl ?_
    refine g_iload 2 C rfl dL_mixes_417 ?_
    refine g_iconst 3 C dL_mixes_419 (by decide) ?_
    refine g_icmp_ne 425 C dL_mixes_420 (by decide) (fun q => absurd (show nI ly = 3 by rw [hl]; rfl) q) (fun _ => ?_)
    refine g_iconst 1 C dL_mixes_423 (by decide) ?_
    exact g_iret C hr rfl dL_mixes_424 (Nat.zero_le _) (Nat.zero_le _) rfl rfl rfl
  ·
    refine g_iconst 1 C dL_mixes_393 (by decide) ?_
    refine g_goto 398 C dL_mixes_394 (by decide) ?_
    refine g_istore [(12, .int (1)), (11, .int (nI (ly))), (10, .int (nI (q))), (9, .int (nI (pt))), (0, .ref (h 0)), (1, .int (3)), (2, .int (z)), (3, .ref (g 1)), (4, .ref (g 2)), (5, .ref (g 3)), (6, .ref (g 4)), (7, .ref (g 5)), (8, .ref (g 7))] C dL_mixes_398 (by decide) rfl ?_
    refine g_iload_n 5 C rfl dL_mixes_400 rfl ?_
    refine g_iconst 3 C dL_mixes_401 (by decide) ?_
    refine g_icmp_ne 574 C dL_mixes_402 (by decide) (fun q => absurd q (by decide)) (fun _ => ?_)
    refine g_iconst 1 C dL_mixes_405 (by decide) ?_
    refine g_iload_n 6 C rfl dL_mixes_406 rfl ?_
    refine g_iconst 5 C dL_mixes_407 (by decide) ?_
    refine g_ishr C dL_mixes_408 ?_
    refine g_bipush 40 C dL_mixes_409 (by decide) ?_
    refine g_bS (na := 2) (av := [.int (z >>> (5 &&& 31)), .int (40)]) (c_low l D cI cJ _ ((z >>> (5 &&& 31))) 40 (s0) (by decide) (by decide) (e2)) C gL_mixes_L_low rfl (by decide +kernel) rfl ⟨Nat.le_of_ble_eq_true rfl, Nat.le_of_ble_eq_true rfl⟩ rfl (Nat.le_of_ble_eq_true rfl) ⟨Nat.zero_le _, Nat.zero_le _⟩ dL_mixes_411 ?_
    refine g_iaddN 1 s0 C dL_mixes_414 ?_
    refine g_istore [(13, .int (nI (1 + s0))), (12, .int (1)), (11, .int (nI (ly))), (10, .int (nI (q))), (9, .int (nI (pt))), (0, .ref (h 0)), (1, .int (3)), (2, .int (z)), (3, .ref (g 1)), (4, .ref (g 2)), (5, .ref (g 3)), (6, .ref (g 4)), (7, .ref (g 5)), (8, .ref (g 7))] C dL_mixes_415 (by decide) rfl ?_
    refine g_iload 2 C rfl dL_mixes_417 ?_
    refine g_iconst 3 C dL_mixes_419 (by decide) ?_
    refine g_icmp_ne 425 C dL_mixes_420 (by decide) (fun q => absurd (show nI ly = 3 by rw [hl]; rfl) q) (fun _ => ?_)
    refine g_iconst 1 C dL_mixes_423 (by decide) ?_
    exact g_iret C hr rfl dL_mixes_424 (Nat.zero_le _) (Nat.zero_le _) rfl rfl rfl
set_option maxRecDepth 100000 in
set_option maxHeartbeats 4000000 in
theorem x_paintA (l : Launch) (D : va_G) (cI cJ : ClassId) (hst : l.stackTraces = false) (h g : Nat → Nat) (σ τ : gS) (hI : iA σ 4 6 4 4) (z : Int32) (pt : Nat) (e0 : lowN z 4 = pt) (hpt : pt < 4) (q s0 ly : Nat) (e1 : lowN (z >>> (3 &&& 31)) 4 = q) (e2 : lowN (z >>> (5 &&& 31)) 40 = s0) (hq : q < 4) (hs0 : s0 < 40) (el : τ.2 5 (7 * q) = nI ly) (hl : ly < 3) (hh : ¬ τ.2 5 (7 * q + 3) = 0) (hK : 3 = th_paint σ 6 4 4 (nI q) (nI pt) (nI (1 + s0))) : MC l yL_mixes wsL_mixes 9 187 D (tyIJ cI cJ) [.ref (h 0), .int (3), .int (z), .ref (g 1), .ref (g 2), .ref (g 3), .ref (g 4), .ref (g 5), .ref (g 7)] (wB cI h g σ τ) (wB cI h g σ τ) none (some (.int 1)) 1 := by
  refine MC.ofG (cc := cL_mixes) (maxL := 19) (ret := (some .boolean)) [(0, .ref (h 0)), (1, .int (3)), (2, .int (z)), (3, .ref (g 1)), (4, .ref (g 2)), (5, .ref (g 3)), (6, .ref (g 4)), (7, .ref (g 5)), (8, .ref (g 7))] (by decide) rfl (Nat.le_of_ble_eq_true rfl) rfl ?_
  intro p e s m args below meth c C hr hout
  refine g_iload_n 2 C rfl dL_mixes_0 rfl ?_
  refine g_iconst 4 C dL_mixes_1 (by decide) ?_
  refine g_bS (na := 2) (av := [.int (z), .int (4)]) (c_low l D cI cJ _ (z) 4 (pt) (by decide) (by decide) (e0)) C gL_mixes_L_low rfl (by decide +kernel) rfl ⟨Nat.le_of_ble_eq_true rfl, Nat.le_of_ble_eq_true rfl⟩ rfl (Nat.le_of_ble_eq_true rfl) ⟨by decide, by decide⟩ dL_mixes_2 ?_
  refine g_istore [(9, .int (nI (pt))), (0, .ref (h 0)), (1, .int (3)), (2, .int (z)), (3, .ref (g 1)), (4, .ref (g 2)), (5, .ref (g 3)), (6, .ref (g 4)), (7, .ref (g 5)), (8, .ref (g 7))] C dL_mixes_5 (by decide) rfl ?_
  refine g_iload_n 2 C rfl dL_mixes_7 rfl ?_
  refine g_if_ne 139 C dL_mixes_8 (by decide) (fun _ => ?_) (fun q => absurd q (by decide))
  refine g_iload_n 2 C rfl dL_mixes_139 rfl ?_
  refine g_iconst 1 C dL_mixes_140 (by decide) ?_
  refine g_icmp_ne 280 C dL_mixes_141 (by decide) (fun _ => ?_) (fun q => absurd q (by decide))
  refine g_iload_n 2 C rfl dL_mixes_280 rfl ?_
  refine g_iconst 2 C dL_mixes_281 (by decide) ?_
  refine g_icmp_ne 361 C dL_mixes_282 (by decide) (fun _ => ?_) (fun q => absurd q (by decide))
  refine g_iload_n 3 C rfl dL_mixes_361 rfl ?_
  refine g_iconst 3 C dL_mixes_362 (by decide) ?_
  refine g_ishr C dL_mixes_363 ?_
  refine g_iconst 4 C dL_mixes_364 (by decide) ?_
  refine g_bS (na := 2) (av := [.int (z >>> (3 &&& 31)), .int (4)]) (c_low l D cI cJ _ ((z >>> (3 &&& 31))) 4 (q) (by decide) (by decide) (e1)) C gL_mixes_L_low rfl (by decide +kernel) rfl ⟨Nat.le_of_ble_eq_true rfl, Nat.le_of_ble_eq_true rfl⟩ rfl (Nat.le_of_ble_eq_true rfl) ⟨by decide, by decide⟩ dL_mixes_365 ?_
  refine g_istore [(10, .int (nI (q))), (9, .int (nI (pt))), (0, .ref (h 0)), (1, .int (3)), (2, .int (z)), (3, .ref (g 1)), (4, .ref (g 2)), (5, .ref (g 3)), (6, .ref (g 4)), (7, .ref (g 5)), (8, .ref (g 7))] C dL_mixes_368 (by decide) rfl ?_
  refine g_aload 9 C rfl dL_mixes_370 ?_
  refine g_bipush 7 C dL_mixes_372 (by decide) ?_
  refine g_iload 0 C rfl dL_mixes_374 ?_
  refine g_imulN 7 q C dL_mixes_376 ?_
  refine g_ialdN (cA := cI) (n := 28) (a := g 5) (f := τ.2 5) (7 * q) 18 0 C rfl rfl (by omega) (by decide) dL_mixes_377 ?_
  refine g_is (nI (ly)) el ?_
  refine g_istore [(11, .int (nI (ly))), (10, .int (nI (q))), (9, .int (nI (pt))), (0, .ref (h 0)), (1, .int (3)), (2, .int (z)), (3, .ref (g 1)), (4, .ref (g 2)), (5, .ref (g 3)), (6, .ref (g 4)), (7, .ref (g 5)), (8, .ref (g 7))] C dL_mixes_378 (by decide) rfl ?_
  refine g_aload 10 C rfl dL_mixes_380 ?_
  refine g_bipush 7 C dL_mixes_382 (by decide) ?_
  refine g_iload 1 C rfl dL_mixes_384 ?_
  refine g_imulN 7 q C dL_mixes_386 ?_
  refine g_iconst 3 C dL_mixes_387 (by decide) ?_
  refine g_iaddN (7 * q) 3 C dL_mixes_388 ?_
  refine g_ialdN (cA := cI) (n := 28) (a := g 5) (f := τ.2 5) ((7 * q) + 3) 18 0 C rfl rfl (by omega) (by decide) dL_mixes_389 ?_
  refine g_if_ne 397 C dL_mixes_390 (by decide) (fun _ => ?_) (fun q => absurd q hh)
  refine g_iconst 0 C dL_mixes_397 (by decide) ?_
  refine g_istore [(12, .int (0)), (11, .int (nI (ly))), (10, .int (nI (q))), (9, .int (nI (pt))), (0, .ref (h 0)), (1, .int (3)), (2, .int (z)), (3, .ref (g 1)), (4, .ref (g 2)), (5, .ref (g 3)), (6, .ref (g 4)), (7, .ref (g 5)), (8, .ref (g 7))] C dL_mixes_398 (by decide) rfl ?_
  refine g_iload_n 5 C rfl dL_mixes_400 rfl ?_
  refine g_iconst 3 C dL_mixes_401 (by decide) ?_
  refine g_icmp_ne 574 C dL_mixes_402 (by decide) (fun q => absurd q (by decide)) (fun _ => ?_)
  refine g_iconst 1 C dL_mixes_405 (by decide) ?_
  refine g_iload_n 6 C rfl dL_mixes_406 rfl ?_
  refine g_iconst 5 C dL_mixes_407 (by decide) ?_
  refine g_ishr C dL_mixes_408 ?_
  refine g_bipush 40 C dL_mixes_409 (by decide) ?_
  refine g_bS (na := 2) (av := [.int (z >>> (5 &&& 31)), .int (40)]) (c_low l D cI cJ _ ((z >>> (5 &&& 31))) 40 (s0) (by decide) (by decide) (e2)) C gL_mixes_L_low rfl (by decide +kernel) rfl ⟨Nat.le_of_ble_eq_true rfl, Nat.le_of_ble_eq_true rfl⟩ rfl (Nat.le_of_ble_eq_true rfl) ⟨by decide, by decide⟩ dL_mixes_411 ?_
  refine g_iaddN 1 s0 C dL_mixes_414 ?_
  refine g_istore [(13, .int (nI (1 + s0))), (12, .int (0)), (11, .int (nI (ly))), (10, .int (nI (q))), (9, .int (nI (pt))), (0, .ref (h 0)), (1, .int (3)), (2, .int (z)), (3, .ref (g 1)), (4, .ref (g 2)), (5, .ref (g 3)), (6, .ref (g 4)), (7, .ref (g 5)), (8, .ref (g 7))] C dL_mixes_415 (by decide) rfl ?_
  refine g_iload 2 C rfl dL_mixes_417 ?_
  refine g_iconst 3 C dL_mixes_419 (by decide) ?_
  refine g_icmp_ne 425 C dL_mixes_420 (by decide) (fun _ => ?_) (fun q => absurd q (nI_n3 hl))
  refine g_iload 1 C rfl dL_mixes_425 ?_
  refine g_if_eq 446 C dL_mixes_427 (by decide) (fun _ => ?_) (fun q => absurd q (by decide))
  refine g_iconst 0 C dL_mixes_446 (by decide) ?_
  refine g_istore [(14, .int (0)), (13, .int (nI (1 + s0))), (12, .int (0)), (11, .int (nI (ly))), (10, .int (nI (q))), (9, .int (nI (pt))), (0, .ref (h 0)), (1, .int (3)), (2, .int (z)), (3, .ref (g 1)), (4, .ref (g 2)), (5, .ref (g 3)), (6, .ref (g 4)), (7, .ref (g 5)), (8, .ref (g 7))] C dL_mixes_447 (by decide) rfl ?_
  refine g_iload 0 C rfl dL_mixes_449 ?_
  refine g_if_eq 539 C dL_mixes_451 (by decide) (fun _ => ?_) (fun q => absurd q (by decide))
  refine g_aload_n 6 C rfl dL_mixes_539 rfl ?_
  refine g_iconst 2 C dL_mixes_540 (by decide) ?_
  refine g_iload 4 C rfl dL_mixes_541 ?_
  refine g_iload 5 C rfl dL_mixes_543 ?_
  refine g_iload 1 C rfl dL_mixes_545 ?_
  refine g_bA (na := 5) (av := [.ref (h 0), .int (2), .int (nI (q)), .int (nI (pt)), .int (nI (1 + s0))]) (k3_paint l D cI cJ hst h σ hI (q) (pt) (nI (1 + s0))  (by omega) (by omega) hK) C gL_mixes_L_calls rfl (by decide +kernel) rfl ⟨Nat.le_of_ble_eq_true rfl, Nat.le_of_ble_eq_true rfl⟩ rfl (Nat.le_of_ble_eq_true rfl) ⟨by decide, by decide⟩ dL_mixes_547 ?_
  refine g_iload 0 C rfl dL_mixes_550 ?_
  refine g_if_eq 562 C dL_mixes_552 (by decide) (fun _ => ?_) (fun q => absurd q (by decide))
  refine g_sipush (-1003) C dL_mixes_562 (by decide) ?_
  refine g_icmp_ne 572 C dL_mixes_565 (by decide) (fun q => absurd q (by decide)) (fun _ => ?_)
  refine g_iconst 1 C dL_mixes_568 (by decide) ?_
  refine g_goto 573 C dL_mixes_569 (by decide) ?_
  exact g_iret C hr rfl dL_mixes_573 (by decide) (by decide) rfl rfl rfl
set_option maxRecDepth 100000 in
set_option maxHeartbeats 4000000 in
theorem x_paintS (l : Launch) (D : va_G) (cI cJ : ClassId) (hst : l.stackTraces = false) (h g : Nat → Nat) (σ τ : gS) (hI : iA σ 4 6 4 4) (z : Int32) (pt : Nat) (e0 : lowN z 4 = pt) (hpt : pt < 4) (q s0 ly : Nat) (e1 : lowN (z >>> (3 &&& 31)) 4 = q) (e2 : lowN (z >>> (5 &&& 31)) 40 = s0) (hq : q < 4) (hs0 : s0 < 40) (el : τ.2 5 (7 * q) = nI ly) (hl : ly < 3) (hh : τ.2 5 (7 * q + 3) = 0) (hc : ¬ nI (1 + s0) ≤ potL τ pt 6) (hK : 3 = th_paint σ 6 4 4 (nI q) (nI pt) (nI (1 + s0))) : MC l yL_mixes wsL_mixes 9 187 D (tyIJ cI cJ) [.ref (h 0), .int (3), .int (z), .ref (g 1), .ref (g 2), .ref (g 3), .ref (g 4), .ref (g 5), .ref (g 7)] (wB cI h g σ τ) (wB cI h g σ τ) none (some (.int 1)) 1 := by
  refine MC.ofG (cc := cL_mixes) (maxL := 19) (ret := (some .boolean)) [(0, .ref (h 0)), (1, .int (3)), (2, .int (z)), (3, .ref (g 1)), (4, .ref (g 2)), (5, .ref (g 3)), (6, .ref (g 4)), (7, .ref (g 5)), (8, .ref (g 7))] (by decide) rfl (Nat.le_of_ble_eq_true rfl) rfl ?_
  intro p e s m args below meth c C hr hout
  refine g_iload_n 2 C rfl dL_mixes_0 rfl ?_
  refine g_iconst 4 C dL_mixes_1 (by decide) ?_
  refine g_bS (na := 2) (av := [.int (z), .int (4)]) (c_low l D cI cJ _ (z) 4 (pt) (by decide) (by decide) (e0)) C gL_mixes_L_low rfl (by decide +kernel) rfl ⟨Nat.le_of_ble_eq_true rfl, Nat.le_of_ble_eq_true rfl⟩ rfl (Nat.le_of_ble_eq_true rfl) ⟨by decide, by decide⟩ dL_mixes_2 ?_
  refine g_istore [(9, .int (nI (pt))), (0, .ref (h 0)), (1, .int (3)), (2, .int (z)), (3, .ref (g 1)), (4, .ref (g 2)), (5, .ref (g 3)), (6, .ref (g 4)), (7, .ref (g 5)), (8, .ref (g 7))] C dL_mixes_5 (by decide) rfl ?_
  refine g_iload_n 2 C rfl dL_mixes_7 rfl ?_
  refine g_if_ne 139 C dL_mixes_8 (by decide) (fun _ => ?_) (fun q => absurd q (by decide))
  refine g_iload_n 2 C rfl dL_mixes_139 rfl ?_
  refine g_iconst 1 C dL_mixes_140 (by decide) ?_
  refine g_icmp_ne 280 C dL_mixes_141 (by decide) (fun _ => ?_) (fun q => absurd q (by decide))
  refine g_iload_n 2 C rfl dL_mixes_280 rfl ?_
  refine g_iconst 2 C dL_mixes_281 (by decide) ?_
  refine g_icmp_ne 361 C dL_mixes_282 (by decide) (fun _ => ?_) (fun q => absurd q (by decide))
  refine g_iload_n 3 C rfl dL_mixes_361 rfl ?_
  refine g_iconst 3 C dL_mixes_362 (by decide) ?_
  refine g_ishr C dL_mixes_363 ?_
  refine g_iconst 4 C dL_mixes_364 (by decide) ?_
  refine g_bS (na := 2) (av := [.int (z >>> (3 &&& 31)), .int (4)]) (c_low l D cI cJ _ ((z >>> (3 &&& 31))) 4 (q) (by decide) (by decide) (e1)) C gL_mixes_L_low rfl (by decide +kernel) rfl ⟨Nat.le_of_ble_eq_true rfl, Nat.le_of_ble_eq_true rfl⟩ rfl (Nat.le_of_ble_eq_true rfl) ⟨by decide, by decide⟩ dL_mixes_365 ?_
  refine g_istore [(10, .int (nI (q))), (9, .int (nI (pt))), (0, .ref (h 0)), (1, .int (3)), (2, .int (z)), (3, .ref (g 1)), (4, .ref (g 2)), (5, .ref (g 3)), (6, .ref (g 4)), (7, .ref (g 5)), (8, .ref (g 7))] C dL_mixes_368 (by decide) rfl ?_
  refine g_aload 9 C rfl dL_mixes_370 ?_
  refine g_bipush 7 C dL_mixes_372 (by decide) ?_
  refine g_iload 0 C rfl dL_mixes_374 ?_
  refine g_imulN 7 q C dL_mixes_376 ?_
  refine g_ialdN (cA := cI) (n := 28) (a := g 5) (f := τ.2 5) (7 * q) 18 0 C rfl rfl (by omega) (by decide) dL_mixes_377 ?_
  refine g_is (nI (ly)) el ?_
  refine g_istore [(11, .int (nI (ly))), (10, .int (nI (q))), (9, .int (nI (pt))), (0, .ref (h 0)), (1, .int (3)), (2, .int (z)), (3, .ref (g 1)), (4, .ref (g 2)), (5, .ref (g 3)), (6, .ref (g 4)), (7, .ref (g 5)), (8, .ref (g 7))] C dL_mixes_378 (by decide) rfl ?_
  refine g_aload 10 C rfl dL_mixes_380 ?_
  refine g_bipush 7 C dL_mixes_382 (by decide) ?_
  refine g_iload 1 C rfl dL_mixes_384 ?_
  refine g_imulN 7 q C dL_mixes_386 ?_
  refine g_iconst 3 C dL_mixes_387 (by decide) ?_
  refine g_iaddN (7 * q) 3 C dL_mixes_388 ?_
  refine g_ialdN (cA := cI) (n := 28) (a := g 5) (f := τ.2 5) ((7 * q) + 3) 18 0 C rfl rfl (by omega) (by decide) dL_mixes_389 ?_
  refine g_if_ne 397 C dL_mixes_390 (by decide) (fun q => absurd hh q) (fun _ => ?_)
  refine g_iconst 1 C dL_mixes_393 (by decide) ?_
  refine g_goto 398 C dL_mixes_394 (by decide) ?_
  refine g_istore [(12, .int (1)), (11, .int (nI (ly))), (10, .int (nI (q))), (9, .int (nI (pt))), (0, .ref (h 0)), (1, .int (3)), (2, .int (z)), (3, .ref (g 1)), (4, .ref (g 2)), (5, .ref (g 3)), (6, .ref (g 4)), (7, .ref (g 5)), (8, .ref (g 7))] C dL_mixes_398 (by decide) rfl ?_
  refine g_iload_n 5 C rfl dL_mixes_400 rfl ?_
  refine g_iconst 3 C dL_mixes_401 (by decide) ?_
  refine g_icmp_ne 574 C dL_mixes_402 (by decide) (fun q => absurd q (by decide)) (fun _ => ?_)
  refine g_iconst 1 C dL_mixes_405 (by decide) ?_
  refine g_iload_n 6 C rfl dL_mixes_406 rfl ?_
  refine g_iconst 5 C dL_mixes_407 (by decide) ?_
  refine g_ishr C dL_mixes_408 ?_
  refine g_bipush 40 C dL_mixes_409 (by decide) ?_
  refine g_bS (na := 2) (av := [.int (z >>> (5 &&& 31)), .int (40)]) (c_low l D cI cJ _ ((z >>> (5 &&& 31))) 40 (s0) (by decide) (by decide) (e2)) C gL_mixes_L_low rfl (by decide +kernel) rfl ⟨Nat.le_of_ble_eq_true rfl, Nat.le_of_ble_eq_true rfl⟩ rfl (Nat.le_of_ble_eq_true rfl) ⟨by decide, by decide⟩ dL_mixes_411 ?_
  refine g_iaddN 1 s0 C dL_mixes_414 ?_
  refine g_istore [(13, .int (nI (1 + s0))), (12, .int (1)), (11, .int (nI (ly))), (10, .int (nI (q))), (9, .int (nI (pt))), (0, .ref (h 0)), (1, .int (3)), (2, .int (z)), (3, .ref (g 1)), (4, .ref (g 2)), (5, .ref (g 3)), (6, .ref (g 4)), (7, .ref (g 5)), (8, .ref (g 7))] C dL_mixes_415 (by decide) rfl ?_
  refine g_iload 2 C rfl dL_mixes_417 ?_
  refine g_iconst 3 C dL_mixes_419 (by decide) ?_
  refine g_icmp_ne 425 C dL_mixes_420 (by decide) (fun _ => ?_) (fun q => absurd q (nI_n3 hl))
  refine g_iload 1 C rfl dL_mixes_425 ?_
  refine g_if_eq 446 C dL_mixes_427 (by decide) (fun q => absurd q (by decide)) (fun _ => ?_)
  refine g_iload 4 C rfl dL_mixes_430 ?_
  refine g_aload 9 C rfl dL_mixes_432 ?_
  refine g_bL (na := 2) (av := [.int (nI (pt)), .ref (g 2)]) (c_total l D cI cJ g τ pt (by omega)) C gL_mixes_L_total rfl (by decide +kernel) rfl ⟨Nat.le_of_ble_eq_true rfl, Nat.le_of_ble_eq_true rfl⟩ rfl (Nat.le_of_ble_eq_true rfl) ⟨by decide, by decide⟩ dL_mixes_434 ?_
  refine g_iload 0 C rfl dL_mixes_437 ?_
  refine g_icmp_lt 446 C dL_mixes_439 (by decide) (fun _ => ?_) (fun q => absurd (i32_nle_iff.mp hc) q)
  refine g_iconst 0 C dL_mixes_446 (by decide) ?_
  refine g_istore [(14, .int (0)), (13, .int (nI (1 + s0))), (12, .int (1)), (11, .int (nI (ly))), (10, .int (nI (q))), (9, .int (nI (pt))), (0, .ref (h 0)), (1, .int (3)), (2, .int (z)), (3, .ref (g 1)), (4, .ref (g 2)), (5, .ref (g 3)), (6, .ref (g 4)), (7, .ref (g 5)), (8, .ref (g 7))] C dL_mixes_447 (by decide) rfl ?_
  refine g_iload 0 C rfl dL_mixes_449 ?_
  refine g_if_eq 539 C dL_mixes_451 (by decide) (fun _ => ?_) (fun q => absurd q (by decide))
  refine g_aload_n 6 C rfl dL_mixes_539 rfl ?_
  refine g_iconst 2 C dL_mixes_540 (by decide) ?_
  refine g_iload 4 C rfl dL_mixes_541 ?_
  refine g_iload 5 C rfl dL_mixes_543 ?_
  refine g_iload 1 C rfl dL_mixes_545 ?_
  refine g_bA (na := 5) (av := [.ref (h 0), .int (2), .int (nI (q)), .int (nI (pt)), .int (nI (1 + s0))]) (k3_paint l D cI cJ hst h σ hI (q) (pt) (nI (1 + s0))  (by omega) (by omega) hK) C gL_mixes_L_calls rfl (by decide +kernel) rfl ⟨Nat.le_of_ble_eq_true rfl, Nat.le_of_ble_eq_true rfl⟩ rfl (Nat.le_of_ble_eq_true rfl) ⟨by decide, by decide⟩ dL_mixes_547 ?_
  refine g_iload 0 C rfl dL_mixes_550 ?_
  refine g_if_eq 562 C dL_mixes_552 (by decide) (fun _ => ?_) (fun q => absurd q (by decide))
  refine g_sipush (-1003) C dL_mixes_562 (by decide) ?_
  refine g_icmp_ne 572 C dL_mixes_565 (by decide) (fun q => absurd q (by decide)) (fun _ => ?_)
  refine g_iconst 1 C dL_mixes_568 (by decide) ?_
  refine g_goto 573 C dL_mixes_569 (by decide) ?_
  exact g_iret C hr rfl dL_mixes_573 (by decide) (by decide) rfl rfl rfl
set_option maxRecDepth 100000 in
set_option maxHeartbeats 4000000 in
theorem x_paint0 (l : Launch) (D : va_G) (cI cJ : ClassId) (hst : l.stackTraces = false) (h g : Nat → Nat) (σ τ : gS) (hI : iA σ 4 6 4 4) (z : Int32) (pt : Nat) (e0 : lowN z 4 = pt) (hpt : pt < 4) (q s0 ly : Nat) (e1 : lowN (z >>> (3 &&& 31)) 4 = q) (e2 : lowN (z >>> (5 &&& 31)) 40 = s0) (hq : q < 4) (hs0 : s0 < 40) (el : τ.2 5 (7 * q) = nI ly) (v3 v4 : Int32) (h3 : flN τ pt (1 + s0) 0 + 1024 * flN τ pt (1 + s0) 1 + 1048576 * flN τ pt (1 + s0) 2 = v3) (h4 : flN τ pt (1 + s0) 3 + 1024 * flN τ pt (1 + s0) 4 + 1048576 * flN τ pt (1 + s0) 5 = v4) (hl : ly < 3) (hh : τ.2 5 (7 * q + 3) = 0) (hp : potOK τ pt) (hS : 1 + s0 ≤ potN τ pt 6) (hc : nI (1 + s0) ≤ potL τ pt 6) (hK : 0 = th_paint σ 6 4 4 (nI q) (nI pt) (nI (1 + s0))) (hres : nI (cl (σ.2 4 q) + 1) = nI (ly + 1)) : MC l yL_mixes wsL_mixes 9 187 D (tyIJ cI cJ) [.ref (h 0), .int (3), .int (z), .ref (g 1), .ref (g 2), .ref (g 3), .ref (g 4), .ref (g 5), .ref (g 7)] (wB cI h g σ τ) (wB cI h g (s_paint σ 6 q pt (nI (1 + s0))) (sA (sA (sA (sA (sA τ 7 (fillF (τ.2 7) (flN τ pt (1 + s0)) 6)) 2 (subF (τ.2 2) (fillF (τ.2 7) (flN τ pt (1 + s0)) 6) (6 * pt) 6)) 3 (upd (τ.2 3) (3 * q + ly) v3)) 4 (upd (τ.2 4) (3 * q + ly) v4)) 5 (upd (τ.2 5) (7 * q) (nI (ly + 1))))) none (some (.int 1)) 1 := by
  refine MC.ofG (cc := cL_mixes) (maxL := 19) (ret := (some .boolean)) [(0, .ref (h 0)), (1, .int (3)), (2, .int (z)), (3, .ref (g 1)), (4, .ref (g 2)), (5, .ref (g 3)), (6, .ref (g 4)), (7, .ref (g 5)), (8, .ref (g 7))] (by decide) rfl (Nat.le_of_ble_eq_true rfl) rfl ?_
  intro p e s m args below meth c C hr hout
  refine g_iload_n 2 C rfl dL_mixes_0 rfl ?_
  refine g_iconst 4 C dL_mixes_1 (by decide) ?_
  refine g_bS (na := 2) (av := [.int (z), .int (4)]) (c_low l D cI cJ _ (z) 4 (pt) (by decide) (by decide) (e0)) C gL_mixes_L_low rfl (by decide +kernel) rfl ⟨Nat.le_of_ble_eq_true rfl, Nat.le_of_ble_eq_true rfl⟩ rfl (Nat.le_of_ble_eq_true rfl) ⟨by decide, by decide⟩ dL_mixes_2 ?_
  refine g_istore [(9, .int (nI (pt))), (0, .ref (h 0)), (1, .int (3)), (2, .int (z)), (3, .ref (g 1)), (4, .ref (g 2)), (5, .ref (g 3)), (6, .ref (g 4)), (7, .ref (g 5)), (8, .ref (g 7))] C dL_mixes_5 (by decide) rfl ?_
  refine g_iload_n 2 C rfl dL_mixes_7 rfl ?_
  refine g_if_ne 139 C dL_mixes_8 (by decide) (fun _ => ?_) (fun q => absurd q (by decide))
  refine g_iload_n 2 C rfl dL_mixes_139 rfl ?_
  refine g_iconst 1 C dL_mixes_140 (by decide) ?_
  refine g_icmp_ne 280 C dL_mixes_141 (by decide) (fun _ => ?_) (fun q => absurd q (by decide))
  refine g_iload_n 2 C rfl dL_mixes_280 rfl ?_
  refine g_iconst 2 C dL_mixes_281 (by decide) ?_
  refine g_icmp_ne 361 C dL_mixes_282 (by decide) (fun _ => ?_) (fun q => absurd q (by decide))
  refine g_iload_n 3 C rfl dL_mixes_361 rfl ?_
  refine g_iconst 3 C dL_mixes_362 (by decide) ?_
  refine g_ishr C dL_mixes_363 ?_
  refine g_iconst 4 C dL_mixes_364 (by decide) ?_
  refine g_bS (na := 2) (av := [.int (z >>> (3 &&& 31)), .int (4)]) (c_low l D cI cJ _ ((z >>> (3 &&& 31))) 4 (q) (by decide) (by decide) (e1)) C gL_mixes_L_low rfl (by decide +kernel) rfl ⟨Nat.le_of_ble_eq_true rfl, Nat.le_of_ble_eq_true rfl⟩ rfl (Nat.le_of_ble_eq_true rfl) ⟨by decide, by decide⟩ dL_mixes_365 ?_
  refine g_istore [(10, .int (nI (q))), (9, .int (nI (pt))), (0, .ref (h 0)), (1, .int (3)), (2, .int (z)), (3, .ref (g 1)), (4, .ref (g 2)), (5, .ref (g 3)), (6, .ref (g 4)), (7, .ref (g 5)), (8, .ref (g 7))] C dL_mixes_368 (by decide) rfl ?_
  refine g_aload 9 C rfl dL_mixes_370 ?_
  refine g_bipush 7 C dL_mixes_372 (by decide) ?_
  refine g_iload 0 C rfl dL_mixes_374 ?_
  refine g_imulN 7 q C dL_mixes_376 ?_
  refine g_ialdN (cA := cI) (n := 28) (a := g 5) (f := τ.2 5) (7 * q) 18 0 C rfl rfl (by omega) (by decide) dL_mixes_377 ?_
  refine g_is (nI (ly)) el ?_
  refine g_istore [(11, .int (nI (ly))), (10, .int (nI (q))), (9, .int (nI (pt))), (0, .ref (h 0)), (1, .int (3)), (2, .int (z)), (3, .ref (g 1)), (4, .ref (g 2)), (5, .ref (g 3)), (6, .ref (g 4)), (7, .ref (g 5)), (8, .ref (g 7))] C dL_mixes_378 (by decide) rfl ?_
  refine g_aload 10 C rfl dL_mixes_380 ?_
  refine g_bipush 7 C dL_mixes_382 (by decide) ?_
  refine g_iload 1 C rfl dL_mixes_384 ?_
  refine g_imulN 7 q C dL_mixes_386 ?_
  refine g_iconst 3 C dL_mixes_387 (by decide) ?_
  refine g_iaddN (7 * q) 3 C dL_mixes_388 ?_
  refine g_ialdN (cA := cI) (n := 28) (a := g 5) (f := τ.2 5) ((7 * q) + 3) 18 0 C rfl rfl (by omega) (by decide) dL_mixes_389 ?_
  refine g_if_ne 397 C dL_mixes_390 (by decide) (fun q => absurd hh q) (fun _ => ?_)
  refine g_iconst 1 C dL_mixes_393 (by decide) ?_
  refine g_goto 398 C dL_mixes_394 (by decide) ?_
  refine g_istore [(12, .int (1)), (11, .int (nI (ly))), (10, .int (nI (q))), (9, .int (nI (pt))), (0, .ref (h 0)), (1, .int (3)), (2, .int (z)), (3, .ref (g 1)), (4, .ref (g 2)), (5, .ref (g 3)), (6, .ref (g 4)), (7, .ref (g 5)), (8, .ref (g 7))] C dL_mixes_398 (by decide) rfl ?_
  refine g_iload_n 5 C rfl dL_mixes_400 rfl ?_
  refine g_iconst 3 C dL_mixes_401 (by decide) ?_
  refine g_icmp_ne 574 C dL_mixes_402 (by decide) (fun q => absurd q (by decide)) (fun _ => ?_)
  refine g_iconst 1 C dL_mixes_405 (by decide) ?_
  refine g_iload_n 6 C rfl dL_mixes_406 rfl ?_
  refine g_iconst 5 C dL_mixes_407 (by decide) ?_
  refine g_ishr C dL_mixes_408 ?_
  refine g_bipush 40 C dL_mixes_409 (by decide) ?_
  refine g_bS (na := 2) (av := [.int (z >>> (5 &&& 31)), .int (40)]) (c_low l D cI cJ _ ((z >>> (5 &&& 31))) 40 (s0) (by decide) (by decide) (e2)) C gL_mixes_L_low rfl (by decide +kernel) rfl ⟨Nat.le_of_ble_eq_true rfl, Nat.le_of_ble_eq_true rfl⟩ rfl (Nat.le_of_ble_eq_true rfl) ⟨by decide, by decide⟩ dL_mixes_411 ?_
  refine g_iaddN 1 s0 C dL_mixes_414 ?_
  refine g_istore [(13, .int (nI (1 + s0))), (12, .int (1)), (11, .int (nI (ly))), (10, .int (nI (q))), (9, .int (nI (pt))), (0, .ref (h 0)), (1, .int (3)), (2, .int (z)), (3, .ref (g 1)), (4, .ref (g 2)), (5, .ref (g 3)), (6, .ref (g 4)), (7, .ref (g 5)), (8, .ref (g 7))] C dL_mixes_415 (by decide) rfl ?_
  refine g_iload 2 C rfl dL_mixes_417 ?_
  refine g_iconst 3 C dL_mixes_419 (by decide) ?_
  refine g_icmp_ne 425 C dL_mixes_420 (by decide) (fun _ => ?_) (fun q => absurd q (nI_n3 hl))
  refine g_iload 1 C rfl dL_mixes_425 ?_
  refine g_if_eq 446 C dL_mixes_427 (by decide) (fun q => absurd q (by decide)) (fun _ => ?_)
  refine g_iload 4 C rfl dL_mixes_430 ?_
  refine g_aload 9 C rfl dL_mixes_432 ?_
  refine g_bL (na := 2) (av := [.int (nI (pt)), .ref (g 2)]) (c_total l D cI cJ g τ pt (by omega)) C gL_mixes_L_total rfl (by decide +kernel) rfl ⟨Nat.le_of_ble_eq_true rfl, Nat.le_of_ble_eq_true rfl⟩ rfl (Nat.le_of_ble_eq_true rfl) ⟨by decide, by decide⟩ dL_mixes_434 ?_
  refine g_iload 0 C rfl dL_mixes_437 ?_
  refine g_icmp_lt 446 C dL_mixes_439 (by decide) (fun q => absurd q (i32_nlt hc)) (fun _ => ?_)
  refine g_iconst 1 C dL_mixes_442 (by decide) ?_
  refine g_goto 447 C dL_mixes_443 (by decide) ?_
  refine g_istore [(14, .int (1)), (13, .int (nI (1 + s0))), (12, .int (1)), (11, .int (nI (ly))), (10, .int (nI (q))), (9, .int (nI (pt))), (0, .ref (h 0)), (1, .int (3)), (2, .int (z)), (3, .ref (g 1)), (4, .ref (g 2)), (5, .ref (g 3)), (6, .ref (g 4)), (7, .ref (g 5)), (8, .ref (g 7))] C dL_mixes_447 (by decide) rfl ?_
  refine g_iload 0 C rfl dL_mixes_449 ?_
  refine g_if_eq 539 C dL_mixes_451 (by decide) (fun q => absurd q (by decide)) (fun _ => ?_)
  refine g_iload 5 C rfl dL_mixes_454 ?_
  refine g_iload 1 C rfl dL_mixes_456 ?_
  refine g_aload 10 C rfl dL_mixes_458 ?_
  refine g_aload 14 C rfl dL_mixes_460 ?_
  refine g_bL (na := 4) (av := [.int (nI (pt)), .int (nI (1 + s0)), .ref (g 2), .ref (g 7)]) (c_flows l D cI cJ g τ pt (1 + s0) (by omega) (by omega) hp hS) C gL_mixes_L_flows rfl (by decide +kernel) rfl ⟨Nat.le_of_ble_eq_true rfl, Nat.le_of_ble_eq_true rfl⟩ rfl (Nat.le_of_ble_eq_true rfl) ⟨by decide, by decide⟩ dL_mixes_462 ?_
  refine g_w (wB cI h g σ (sA (sA τ 7 (fillF (τ.2 7) (flN τ pt (1 + s0)) 6)) 2 (subF (τ.2 2) (fillF (τ.2 7) (flN τ pt (1 + s0)) 6) (6 * pt) 6))) rfl ?_
  refine g_aload 11 C rfl dL_mixes_465 ?_
  refine g_iload 4 C rfl dL_mixes_467 ?_
  refine g_iload 3 C rfl dL_mixes_469 ?_
  refine g_bS (na := 2) (av := [.int (nI (q)), .int (nI (ly))]) (c_at l D cI cJ _ q ly) C gL_mixes_L_at rfl (by decide +kernel) rfl ⟨Nat.le_of_ble_eq_true rfl, Nat.le_of_ble_eq_true rfl⟩ rfl (Nat.le_of_ble_eq_true rfl) ⟨by decide, by decide⟩ dL_mixes_471 ?_
  refine g_aload 14 C rfl dL_mixes_474 ?_
  refine g_iconst 0 C dL_mixes_476 (by decide) ?_
  refine g_ialdN (cA := cI) (n := 6) (a := g 7) (f := fillF (τ.2 7) (flN τ pt (1 + s0)) 6) 0 20 0 C rfl rfl (by omega) (by decide) dL_mixes_477 ?_
  refine g_is ((flN τ pt (1 + s0) 0)) (fillF_at _ _ _ _ (by decide)) ?_
  refine g_sipush 1024 C dL_mixes_478 (by decide) ?_
  refine g_aload 14 C rfl dL_mixes_481 ?_
  refine g_iconst 1 C dL_mixes_483 (by decide) ?_
  refine g_ialdN (cA := cI) (n := 6) (a := g 7) (f := fillF (τ.2 7) (flN τ pt (1 + s0)) 6) 1 20 0 C rfl rfl (by omega) (by decide) dL_mixes_484 ?_
  refine g_is ((flN τ pt (1 + s0) 1)) (fillF_at _ _ _ _ (by decide)) ?_
  refine g_imul C dL_mixes_485 ?_
  refine g_iadd C dL_mixes_486 ?_
  refine g_ldc 1048576 C (by decide +kernel) dL_mixes_487 ?_
  refine g_aload 14 C rfl dL_mixes_489 ?_
  refine g_iconst 2 C dL_mixes_491 (by decide) ?_
  refine g_ialdN (cA := cI) (n := 6) (a := g 7) (f := fillF (τ.2 7) (flN τ pt (1 + s0)) 6) 2 20 0 C rfl rfl (by omega) (by decide) dL_mixes_492 ?_
  refine g_is ((flN τ pt (1 + s0) 2)) (fillF_at _ _ _ _ (by decide)) ?_
  refine g_imul C dL_mixes_493 ?_
  refine g_iadd C dL_mixes_494 ?_
  refine g_is (v3) h3 ?_
  refine g_iastN (cA := cI) (n := 12) (a := g 3) (f := τ.2 3) (x := v3) (3 * q + ly) 16 0 (wB cI h g σ (sA (sA (sA τ 7 (fillF (τ.2 7) (flN τ pt (1 + s0)) 6)) 2 (subF (τ.2 2) (fillF (τ.2 7) (flN τ pt (1 + s0)) 6) (6 * pt) 6)) 3 (upd (τ.2 3) (3 * q + ly) (v3)))) C rfl rfl (by omega) (by decide) rfl dL_mixes_495 ?_
  refine g_aload 12 C rfl dL_mixes_496 ?_
  refine g_iload 4 C rfl dL_mixes_498 ?_
  refine g_iload 3 C rfl dL_mixes_500 ?_
  refine g_bS (na := 2) (av := [.int (nI (q)), .int (nI (ly))]) (c_at l D cI cJ _ q ly) C gL_mixes_L_at rfl (by decide +kernel) rfl ⟨Nat.le_of_ble_eq_true rfl, Nat.le_of_ble_eq_true rfl⟩ rfl (Nat.le_of_ble_eq_true rfl) ⟨by decide, by decide⟩ dL_mixes_502 ?_
  refine g_aload 14 C rfl dL_mixes_505 ?_
  refine g_iconst 3 C dL_mixes_507 (by decide) ?_
  refine g_ialdN (cA := cI) (n := 6) (a := g 7) (f := fillF (τ.2 7) (flN τ pt (1 + s0)) 6) 3 20 0 C rfl rfl (by omega) (by decide) dL_mixes_508 ?_
  refine g_is ((flN τ pt (1 + s0) 3)) (fillF_at _ _ _ _ (by decide)) ?_
  refine g_sipush 1024 C dL_mixes_509 (by decide) ?_
  refine g_aload 14 C rfl dL_mixes_512 ?_
  refine g_iconst 4 C dL_mixes_514 (by decide) ?_
  refine g_ialdN (cA := cI) (n := 6) (a := g 7) (f := fillF (τ.2 7) (flN τ pt (1 + s0)) 6) 4 20 0 C rfl rfl (by omega) (by decide) dL_mixes_515 ?_
  refine g_is ((flN τ pt (1 + s0) 4)) (fillF_at _ _ _ _ (by decide)) ?_
  refine g_imul C dL_mixes_516 ?_
  refine g_iadd C dL_mixes_517 ?_
  refine g_ldc 1048576 C (by decide +kernel) dL_mixes_518 ?_
  refine g_aload 14 C rfl dL_mixes_520 ?_
  refine g_iconst 5 C dL_mixes_522 (by decide) ?_
  refine g_ialdN (cA := cI) (n := 6) (a := g 7) (f := fillF (τ.2 7) (flN τ pt (1 + s0)) 6) 5 20 0 C rfl rfl (by omega) (by decide) dL_mixes_523 ?_
  refine g_is ((flN τ pt (1 + s0) 5)) (fillF_at _ _ _ _ (by decide)) ?_
  refine g_imul C dL_mixes_524 ?_
  refine g_iadd C dL_mixes_525 ?_
  refine g_is (v4) h4 ?_
  refine g_iastN (cA := cI) (n := 12) (a := g 4) (f := τ.2 4) (x := v4) (3 * q + ly) 17 0 (wB cI h g σ (sA (sA (sA (sA τ 7 (fillF (τ.2 7) (flN τ pt (1 + s0)) 6)) 2 (subF (τ.2 2) (fillF (τ.2 7) (flN τ pt (1 + s0)) 6) (6 * pt) 6)) 3 (upd (τ.2 3) (3 * q + ly) (v3))) 4 (upd (τ.2 4) (3 * q + ly) (v4)))) C rfl rfl (by omega) (by decide) rfl dL_mixes_526 ?_
  refine g_aload 13 C rfl dL_mixes_527 ?_
  refine g_bipush 7 C dL_mixes_529 (by decide) ?_
  refine g_iload 4 C rfl dL_mixes_531 ?_
  refine g_imulN 7 q C dL_mixes_533 ?_
  refine g_dup2 C dL_mixes_534 rfl rfl ?_
  refine g_ialdN (cA := cI) (n := 28) (a := g 5) (f := τ.2 5) (7 * q) 18 0 C rfl rfl (by omega) (by decide) dL_mixes_535 ?_
  refine g_is (nI (ly)) el ?_
  refine g_iconst 1 C dL_mixes_536 (by decide) ?_
  refine g_iaddN ly 1 C dL_mixes_537 ?_
  refine g_iastN (cA := cI) (n := 28) (a := g 5) (f := τ.2 5) (x := nI (ly + 1)) (7 * q) 18 0 (wB cI h g σ (sA (sA (sA (sA (sA τ 7 (fillF (τ.2 7) (flN τ pt (1 + s0)) 6)) 2 (subF (τ.2 2) (fillF (τ.2 7) (flN τ pt (1 + s0)) 6) (6 * pt) 6)) 3 (upd (τ.2 3) (3 * q + ly) (v3))) 4 (upd (τ.2 4) (3 * q + ly) (v4))) 5 (upd (τ.2 5) (7 * q) (nI (ly + 1))))) C rfl rfl (by omega) (by decide) rfl dL_mixes_538 ?_
  refine g_aload_n 6 C rfl dL_mixes_539 rfl ?_
  refine g_iconst 2 C dL_mixes_540 (by decide) ?_
  refine g_iload 4 C rfl dL_mixes_541 ?_
  refine g_iload 5 C rfl dL_mixes_543 ?_
  refine g_iload 1 C rfl dL_mixes_545 ?_
  refine g_bA (na := 5) (av := [.ref (h 0), .int (2), .int (nI (q)), .int (nI (pt)), .int (nI (1 + s0))]) (k0_paint l D cI cJ hst h σ hI (q) (pt) (nI (1 + s0))  (by omega) (by omega) hK) C gL_mixes_L_calls rfl (by decide +kernel) rfl ⟨Nat.le_of_ble_eq_true rfl, Nat.le_of_ble_eq_true rfl⟩ rfl (Nat.le_of_ble_eq_true rfl) ⟨by decide, by decide⟩ dL_mixes_547 ?_
  refine g_w (wB cI h g (s_paint σ 6 q pt (nI (1 + s0))) (sA (sA (sA (sA (sA τ 7 (fillF (τ.2 7) (flN τ pt (1 + s0)) 6)) 2 (subF (τ.2 2) (fillF (τ.2 7) (flN τ pt (1 + s0)) 6) (6 * pt) 6)) 3 (upd (τ.2 3) (3 * q + ly) (v3))) 4 (upd (τ.2 4) (3 * q + ly) (v4))) 5 (upd (τ.2 5) (7 * q) (nI (ly + 1))))) rfl ?_
  refine g_iload 0 C rfl dL_mixes_550 ?_
  refine g_if_eq 562 C dL_mixes_552 (by decide) (fun q => absurd q (by decide)) (fun _ => ?_)
  refine g_iload 3 C rfl dL_mixes_555 ?_
  refine g_iconst 1 C dL_mixes_557 (by decide) ?_
  refine g_iaddN ly 1 C dL_mixes_558 ?_
  refine g_goto 565 C dL_mixes_559 (by decide) ?_
  refine g_icmp_ne 572 C dL_mixes_565 (by decide) (fun q => absurd hres q) (fun _ => ?_)
  refine g_iconst 1 C dL_mixes_568 (by decide) ?_
  refine g_goto 573 C dL_mixes_569 (by decide) ?_
  exact g_iret C hr rfl dL_mixes_573 (by decide) (by decide) rfl rfl rfl
set_option maxRecDepth 100000 in
set_option maxHeartbeats 4000000 in
theorem x_cleanA (l : Launch) (D : va_G) (cI cJ : ClassId) (hst : l.stackTraces = false) (h g : Nat → Nat) (σ τ : gS) (hI : iA σ 4 6 4 4) (z : Int32) (pt : Nat) (e0 : lowN z 4 = pt) (hpt : pt < 4) (q s0 ly : Nat) (e1 : lowN (z >>> (3 &&& 31)) 4 = q) (e2 : lowN (z >>> (6 &&& 31)) 3 = s0) (hq : q < 4) (hs0 : s0 < 3) (el : τ.2 5 (7 * q) = nI ly) (hl : ly ≤ 3) (hh : ¬ τ.2 5 (7 * q + 3) = 0) (hK : 3 = th_clean σ 4 (nI q) (nI (1 + s0))) : MC l yL_mixes wsL_mixes 9 187 D (tyIJ cI cJ) [.ref (h 0), .int (4), .int (z), .ref (g 1), .ref (g 2), .ref (g 3), .ref (g 4), .ref (g 5), .ref (g 7)] (wB cI h g σ τ) (wB cI h g σ τ) none (some (.int 1)) 1 := by
  refine MC.ofG (cc := cL_mixes) (maxL := 19) (ret := (some .boolean)) [(0, .ref (h 0)), (1, .int (4)), (2, .int (z)), (3, .ref (g 1)), (4, .ref (g 2)), (5, .ref (g 3)), (6, .ref (g 4)), (7, .ref (g 5)), (8, .ref (g 7))] (by decide) rfl (Nat.le_of_ble_eq_true rfl) rfl ?_
  intro p e s m args below meth c C hr hout
  refine g_iload_n 2 C rfl dL_mixes_0 rfl ?_
  refine g_iconst 4 C dL_mixes_1 (by decide) ?_
  refine g_bS (na := 2) (av := [.int (z), .int (4)]) (c_low l D cI cJ _ (z) 4 (pt) (by decide) (by decide) (e0)) C gL_mixes_L_low rfl (by decide +kernel) rfl ⟨Nat.le_of_ble_eq_true rfl, Nat.le_of_ble_eq_true rfl⟩ rfl (Nat.le_of_ble_eq_true rfl) ⟨by decide, by decide⟩ dL_mixes_2 ?_
  refine g_istore [(9, .int (nI (pt))), (0, .ref (h 0)), (1, .int (4)), (2, .int (z)), (3, .ref (g 1)), (4, .ref (g 2)), (5, .ref (g 3)), (6, .ref (g 4)), (7, .ref (g 5)), (8, .ref (g 7))] C dL_mixes_5 (by decide) rfl ?_
  refine g_iload_n 2 C rfl dL_mixes_7 rfl ?_
  refine g_if_ne 139 C dL_mixes_8 (by decide) (fun _ => ?_) (fun q => absurd q (by decide))
  refine g_iload_n 2 C rfl dL_mixes_139 rfl ?_
  refine g_iconst 1 C dL_mixes_140 (by decide) ?_
  refine g_icmp_ne 280 C dL_mixes_141 (by decide) (fun _ => ?_) (fun q => absurd q (by decide))
  refine g_iload_n 2 C rfl dL_mixes_280 rfl ?_
  refine g_iconst 2 C dL_mixes_281 (by decide) ?_
  refine g_icmp_ne 361 C dL_mixes_282 (by decide) (fun _ => ?_) (fun q => absurd q (by decide))
  refine g_iload_n 3 C rfl dL_mixes_361 rfl ?_
  refine g_iconst 3 C dL_mixes_362 (by decide) ?_
  refine g_ishr C dL_mixes_363 ?_
  refine g_iconst 4 C dL_mixes_364 (by decide) ?_
  refine g_bS (na := 2) (av := [.int (z >>> (3 &&& 31)), .int (4)]) (c_low l D cI cJ _ ((z >>> (3 &&& 31))) 4 (q) (by decide) (by decide) (e1)) C gL_mixes_L_low rfl (by decide +kernel) rfl ⟨Nat.le_of_ble_eq_true rfl, Nat.le_of_ble_eq_true rfl⟩ rfl (Nat.le_of_ble_eq_true rfl) ⟨by decide, by decide⟩ dL_mixes_365 ?_
  refine g_istore [(10, .int (nI (q))), (9, .int (nI (pt))), (0, .ref (h 0)), (1, .int (4)), (2, .int (z)), (3, .ref (g 1)), (4, .ref (g 2)), (5, .ref (g 3)), (6, .ref (g 4)), (7, .ref (g 5)), (8, .ref (g 7))] C dL_mixes_368 (by decide) rfl ?_
  refine g_aload 9 C rfl dL_mixes_370 ?_
  refine g_bipush 7 C dL_mixes_372 (by decide) ?_
  refine g_iload 0 C rfl dL_mixes_374 ?_
  refine g_imulN 7 q C dL_mixes_376 ?_
  refine g_ialdN (cA := cI) (n := 28) (a := g 5) (f := τ.2 5) (7 * q) 18 0 C rfl rfl (by omega) (by decide) dL_mixes_377 ?_
  refine g_is (nI (ly)) el ?_
  refine g_istore [(11, .int (nI (ly))), (10, .int (nI (q))), (9, .int (nI (pt))), (0, .ref (h 0)), (1, .int (4)), (2, .int (z)), (3, .ref (g 1)), (4, .ref (g 2)), (5, .ref (g 3)), (6, .ref (g 4)), (7, .ref (g 5)), (8, .ref (g 7))] C dL_mixes_378 (by decide) rfl ?_
  refine g_aload 10 C rfl dL_mixes_380 ?_
  refine g_bipush 7 C dL_mixes_382 (by decide) ?_
  refine g_iload 1 C rfl dL_mixes_384 ?_
  refine g_imulN 7 q C dL_mixes_386 ?_
  refine g_iconst 3 C dL_mixes_387 (by decide) ?_
  refine g_iaddN (7 * q) 3 C dL_mixes_388 ?_
  refine g_ialdN (cA := cI) (n := 28) (a := g 5) (f := τ.2 5) ((7 * q) + 3) 18 0 C rfl rfl (by omega) (by decide) dL_mixes_389 ?_
  refine g_if_ne 397 C dL_mixes_390 (by decide) (fun _ => ?_) (fun q => absurd q hh)
  refine g_iconst 0 C dL_mixes_397 (by decide) ?_
  refine g_istore [(12, .int (0)), (11, .int (nI (ly))), (10, .int (nI (q))), (9, .int (nI (pt))), (0, .ref (h 0)), (1, .int (4)), (2, .int (z)), (3, .ref (g 1)), (4, .ref (g 2)), (5, .ref (g 3)), (6, .ref (g 4)), (7, .ref (g 5)), (8, .ref (g 7))] C dL_mixes_398 (by decide) rfl ?_
  refine g_iload_n 5 C rfl dL_mixes_400 rfl ?_
  refine g_iconst 3 C dL_mixes_401 (by decide) ?_
  refine g_icmp_ne 574 C dL_mixes_402 (by decide) (fun _ => ?_) (fun q => absurd q (by decide))
  refine g_iconst 1 C dL_mixes_574 (by decide) ?_
  refine g_iload_n 6 C rfl dL_mixes_575 rfl ?_
  refine g_bipush 6 C dL_mixes_576 (by decide) ?_
  refine g_ishr C dL_mixes_578 ?_
  refine g_iconst 3 C dL_mixes_579 (by decide) ?_
  refine g_bS (na := 2) (av := [.int (z >>> (6 &&& 31)), .int (3)]) (c_low l D cI cJ _ ((z >>> (6 &&& 31))) 3 (s0) (by decide) (by decide) (e2)) C gL_mixes_L_low rfl (by decide +kernel) rfl ⟨Nat.le_of_ble_eq_true rfl, Nat.le_of_ble_eq_true rfl⟩ rfl (Nat.le_of_ble_eq_true rfl) ⟨by decide, by decide⟩ dL_mixes_580 ?_
  refine g_iaddN 1 s0 C dL_mixes_583 ?_
  refine g_istore [(13, .int (nI (1 + s0))), (12, .int (0)), (11, .int (nI (ly))), (10, .int (nI (q))), (9, .int (nI (pt))), (0, .ref (h 0)), (1, .int (4)), (2, .int (z)), (3, .ref (g 1)), (4, .ref (g 2)), (5, .ref (g 3)), (6, .ref (g 4)), (7, .ref (g 5)), (8, .ref (g 7))] C dL_mixes_584 (by decide) rfl ?_
  refine g_iload 1 C rfl dL_mixes_586 ?_
  refine g_if_eq 602 C dL_mixes_588 (by decide) (fun _ => ?_) (fun q => absurd q (by decide))
  refine g_iconst 0 C dL_mixes_602 (by decide) ?_
  refine g_istore [(14, .int (0)), (13, .int (nI (1 + s0))), (12, .int (0)), (11, .int (nI (ly))), (10, .int (nI (q))), (9, .int (nI (pt))), (0, .ref (h 0)), (1, .int (4)), (2, .int (z)), (3, .ref (g 1)), (4, .ref (g 2)), (5, .ref (g 3)), (6, .ref (g 4)), (7, .ref (g 5)), (8, .ref (g 7))] C dL_mixes_603 (by decide) rfl ?_
  refine g_iconst 0 C dL_mixes_605 (by decide) ?_
  refine g_istore [(15, .int (0)), (14, .int (0)), (13, .int (nI (1 + s0))), (12, .int (0)), (11, .int (nI (ly))), (10, .int (nI (q))), (9, .int (nI (pt))), (0, .ref (h 0)), (1, .int (4)), (2, .int (z)), (3, .ref (g 1)), (4, .ref (g 2)), (5, .ref (g 3)), (6, .ref (g 4)), (7, .ref (g 5)), (8, .ref (g 7))] C dL_mixes_606 (by decide) rfl ?_
  refine g_iconst 0 C dL_mixes_608 (by decide) ?_
  refine g_istore [(16, .int (0)), (15, .int (0)), (14, .int (0)), (13, .int (nI (1 + s0))), (12, .int (0)), (11, .int (nI (ly))), (10, .int (nI (q))), (9, .int (nI (pt))), (0, .ref (h 0)), (1, .int (4)), (2, .int (z)), (3, .ref (g 1)), (4, .ref (g 2)), (5, .ref (g 3)), (6, .ref (g 4)), (7, .ref (g 5)), (8, .ref (g 7))] C dL_mixes_609 (by decide) rfl ?_
  refine g_iload 0 C rfl dL_mixes_611 ?_
  refine g_iload 3 C rfl dL_mixes_613 ?_
  refine g_icmp_ge 735 C dL_mixes_615 (by decide) (fun q => absurd q (nI_n1 (by omega))) (fun _ => ?_)
  refine g_iload 2 C rfl dL_mixes_618 ?_
  refine g_if_eq 735 C dL_mixes_620 (by decide) (fun _ => ?_) (fun q => absurd q (by decide))
  refine g_aload_n 8 C rfl dL_mixes_735 rfl ?_
  refine g_iconst 3 C dL_mixes_736 (by decide) ?_
  refine g_iload 6 C rfl dL_mixes_737 ?_
  refine g_iload 3 C rfl dL_mixes_739 ?_
  refine g_iconst 0 C dL_mixes_741 (by decide) ?_
  refine g_bA (na := 5) (av := [.ref (h 0), .int (3), .int (nI (q)), .int (nI (1 + s0)), .int (0)]) (k3_clean l D cI cJ hst h σ hI (q) (1 + s0)  0 (by omega) (by omega) hK) C gL_mixes_L_calls rfl (by decide +kernel) rfl ⟨Nat.le_of_ble_eq_true rfl, Nat.le_of_ble_eq_true rfl⟩ rfl (Nat.le_of_ble_eq_true rfl) ⟨by decide, by decide⟩ dL_mixes_742 ?_
  refine g_iload 2 C rfl dL_mixes_745 ?_
  refine g_if_eq 755 C dL_mixes_747 (by decide) (fun _ => ?_) (fun q => absurd q (by decide))
  refine g_sipush (-1003) C dL_mixes_755 (by decide) ?_
  refine g_icmp_ne 765 C dL_mixes_758 (by decide) (fun q => absurd q (by decide)) (fun _ => ?_)
  refine g_iconst 1 C dL_mixes_761 (by decide) ?_
  refine g_goto 766 C dL_mixes_762 (by decide) ?_
  exact g_iret C hr rfl dL_mixes_766 (by decide) (by decide) rfl rfl rfl
set_option maxRecDepth 100000 in
set_option maxHeartbeats 4000000 in
theorem x_cleanS (l : Launch) (D : va_G) (cI cJ : ClassId) (hst : l.stackTraces = false) (h g : Nat → Nat) (σ τ : gS) (hI : iA σ 4 6 4 4) (z : Int32) (pt : Nat) (e0 : lowN z 4 = pt) (hpt : pt < 4) (q s0 ly : Nat) (e1 : lowN (z >>> (3 &&& 31)) 4 = q) (e2 : lowN (z >>> (6 &&& 31)) 3 = s0) (hq : q < 4) (hs0 : s0 < 3) (el : τ.2 5 (7 * q) = nI ly) (hl : ly ≤ 3) (hh : τ.2 5 (7 * q + 3) = 0) (hc : ¬ 1 + s0 ≤ ly) (hK : 3 = th_clean σ 4 (nI q) (nI (1 + s0))) : MC l yL_mixes wsL_mixes 9 187 D (tyIJ cI cJ) [.ref (h 0), .int (4), .int (z), .ref (g 1), .ref (g 2), .ref (g 3), .ref (g 4), .ref (g 5), .ref (g 7)] (wB cI h g σ τ) (wB cI h g σ τ) none (some (.int 1)) 1 := by
  refine MC.ofG (cc := cL_mixes) (maxL := 19) (ret := (some .boolean)) [(0, .ref (h 0)), (1, .int (4)), (2, .int (z)), (3, .ref (g 1)), (4, .ref (g 2)), (5, .ref (g 3)), (6, .ref (g 4)), (7, .ref (g 5)), (8, .ref (g 7))] (by decide) rfl (Nat.le_of_ble_eq_true rfl) rfl ?_
  intro p e s m args below meth c C hr hout
  refine g_iload_n 2 C rfl dL_mixes_0 rfl ?_
  refine g_iconst 4 C dL_mixes_1 (by decide) ?_
  refine g_bS (na := 2) (av := [.int (z), .int (4)]) (c_low l D cI cJ _ (z) 4 (pt) (by decide) (by decide) (e0)) C gL_mixes_L_low rfl (by decide +kernel) rfl ⟨Nat.le_of_ble_eq_true rfl, Nat.le_of_ble_eq_true rfl⟩ rfl (Nat.le_of_ble_eq_true rfl) ⟨by decide, by decide⟩ dL_mixes_2 ?_
  refine g_istore [(9, .int (nI (pt))), (0, .ref (h 0)), (1, .int (4)), (2, .int (z)), (3, .ref (g 1)), (4, .ref (g 2)), (5, .ref (g 3)), (6, .ref (g 4)), (7, .ref (g 5)), (8, .ref (g 7))] C dL_mixes_5 (by decide) rfl ?_
  refine g_iload_n 2 C rfl dL_mixes_7 rfl ?_
  refine g_if_ne 139 C dL_mixes_8 (by decide) (fun _ => ?_) (fun q => absurd q (by decide))
  refine g_iload_n 2 C rfl dL_mixes_139 rfl ?_
  refine g_iconst 1 C dL_mixes_140 (by decide) ?_
  refine g_icmp_ne 280 C dL_mixes_141 (by decide) (fun _ => ?_) (fun q => absurd q (by decide))
  refine g_iload_n 2 C rfl dL_mixes_280 rfl ?_
  refine g_iconst 2 C dL_mixes_281 (by decide) ?_
  refine g_icmp_ne 361 C dL_mixes_282 (by decide) (fun _ => ?_) (fun q => absurd q (by decide))
  refine g_iload_n 3 C rfl dL_mixes_361 rfl ?_
  refine g_iconst 3 C dL_mixes_362 (by decide) ?_
  refine g_ishr C dL_mixes_363 ?_
  refine g_iconst 4 C dL_mixes_364 (by decide) ?_
  refine g_bS (na := 2) (av := [.int (z >>> (3 &&& 31)), .int (4)]) (c_low l D cI cJ _ ((z >>> (3 &&& 31))) 4 (q) (by decide) (by decide) (e1)) C gL_mixes_L_low rfl (by decide +kernel) rfl ⟨Nat.le_of_ble_eq_true rfl, Nat.le_of_ble_eq_true rfl⟩ rfl (Nat.le_of_ble_eq_true rfl) ⟨by decide, by decide⟩ dL_mixes_365 ?_
  refine g_istore [(10, .int (nI (q))), (9, .int (nI (pt))), (0, .ref (h 0)), (1, .int (4)), (2, .int (z)), (3, .ref (g 1)), (4, .ref (g 2)), (5, .ref (g 3)), (6, .ref (g 4)), (7, .ref (g 5)), (8, .ref (g 7))] C dL_mixes_368 (by decide) rfl ?_
  refine g_aload 9 C rfl dL_mixes_370 ?_
  refine g_bipush 7 C dL_mixes_372 (by decide) ?_
  refine g_iload 0 C rfl dL_mixes_374 ?_
  refine g_imulN 7 q C dL_mixes_376 ?_
  refine g_ialdN (cA := cI) (n := 28) (a := g 5) (f := τ.2 5) (7 * q) 18 0 C rfl rfl (by omega) (by decide) dL_mixes_377 ?_
  refine g_is (nI (ly)) el ?_
  refine g_istore [(11, .int (nI (ly))), (10, .int (nI (q))), (9, .int (nI (pt))), (0, .ref (h 0)), (1, .int (4)), (2, .int (z)), (3, .ref (g 1)), (4, .ref (g 2)), (5, .ref (g 3)), (6, .ref (g 4)), (7, .ref (g 5)), (8, .ref (g 7))] C dL_mixes_378 (by decide) rfl ?_
  refine g_aload 10 C rfl dL_mixes_380 ?_
  refine g_bipush 7 C dL_mixes_382 (by decide) ?_
  refine g_iload 1 C rfl dL_mixes_384 ?_
  refine g_imulN 7 q C dL_mixes_386 ?_
  refine g_iconst 3 C dL_mixes_387 (by decide) ?_
  refine g_iaddN (7 * q) 3 C dL_mixes_388 ?_
  refine g_ialdN (cA := cI) (n := 28) (a := g 5) (f := τ.2 5) ((7 * q) + 3) 18 0 C rfl rfl (by omega) (by decide) dL_mixes_389 ?_
  refine g_if_ne 397 C dL_mixes_390 (by decide) (fun q => absurd hh q) (fun _ => ?_)
  refine g_iconst 1 C dL_mixes_393 (by decide) ?_
  refine g_goto 398 C dL_mixes_394 (by decide) ?_
  refine g_istore [(12, .int (1)), (11, .int (nI (ly))), (10, .int (nI (q))), (9, .int (nI (pt))), (0, .ref (h 0)), (1, .int (4)), (2, .int (z)), (3, .ref (g 1)), (4, .ref (g 2)), (5, .ref (g 3)), (6, .ref (g 4)), (7, .ref (g 5)), (8, .ref (g 7))] C dL_mixes_398 (by decide) rfl ?_
  refine g_iload_n 5 C rfl dL_mixes_400 rfl ?_
  refine g_iconst 3 C dL_mixes_401 (by decide) ?_
  refine g_icmp_ne 574 C dL_mixes_402 (by decide) (fun _ => ?_) (fun q => absurd q (by decide))
  refine g_iconst 1 C dL_mixes_574 (by decide) ?_
  refine g_iload_n 6 C rfl dL_mixes_575 rfl ?_
  refine g_bipush 6 C dL_mixes_576 (by decide) ?_
  refine g_ishr C dL_mixes_578 ?_
  refine g_iconst 3 C dL_mixes_579 (by decide) ?_
  refine g_bS (na := 2) (av := [.int (z >>> (6 &&& 31)), .int (3)]) (c_low l D cI cJ _ ((z >>> (6 &&& 31))) 3 (s0) (by decide) (by decide) (e2)) C gL_mixes_L_low rfl (by decide +kernel) rfl ⟨Nat.le_of_ble_eq_true rfl, Nat.le_of_ble_eq_true rfl⟩ rfl (Nat.le_of_ble_eq_true rfl) ⟨by decide, by decide⟩ dL_mixes_580 ?_
  refine g_iaddN 1 s0 C dL_mixes_583 ?_
  refine g_istore [(13, .int (nI (1 + s0))), (12, .int (1)), (11, .int (nI (ly))), (10, .int (nI (q))), (9, .int (nI (pt))), (0, .ref (h 0)), (1, .int (4)), (2, .int (z)), (3, .ref (g 1)), (4, .ref (g 2)), (5, .ref (g 3)), (6, .ref (g 4)), (7, .ref (g 5)), (8, .ref (g 7))] C dL_mixes_584 (by decide) rfl ?_
  refine g_iload 1 C rfl dL_mixes_586 ?_
  refine g_if_eq 602 C dL_mixes_588 (by decide) (fun q => absurd q (by decide)) (fun _ => ?_)
  refine g_iload 2 C rfl dL_mixes_591 ?_
  refine g_iload 0 C rfl dL_mixes_593 ?_
  refine g_icmp_lt 602 C dL_mixes_595 (by decide) (fun _ => ?_) (fun q => absurd ((nI_ltI (by omega) (by omega)).mpr (by omega)) q)
  refine g_iconst 0 C dL_mixes_602 (by decide) ?_
  refine g_istore [(14, .int (0)), (13, .int (nI (1 + s0))), (12, .int (1)), (11, .int (nI (ly))), (10, .int (nI (q))), (9, .int (nI (pt))), (0, .ref (h 0)), (1, .int (4)), (2, .int (z)), (3, .ref (g 1)), (4, .ref (g 2)), (5, .ref (g 3)), (6, .ref (g 4)), (7, .ref (g 5)), (8, .ref (g 7))] C dL_mixes_603 (by decide) rfl ?_
  refine g_iconst 0 C dL_mixes_605 (by decide) ?_
  refine g_istore [(15, .int (0)), (14, .int (0)), (13, .int (nI (1 + s0))), (12, .int (1)), (11, .int (nI (ly))), (10, .int (nI (q))), (9, .int (nI (pt))), (0, .ref (h 0)), (1, .int (4)), (2, .int (z)), (3, .ref (g 1)), (4, .ref (g 2)), (5, .ref (g 3)), (6, .ref (g 4)), (7, .ref (g 5)), (8, .ref (g 7))] C dL_mixes_606 (by decide) rfl ?_
  refine g_iconst 0 C dL_mixes_608 (by decide) ?_
  refine g_istore [(16, .int (0)), (15, .int (0)), (14, .int (0)), (13, .int (nI (1 + s0))), (12, .int (1)), (11, .int (nI (ly))), (10, .int (nI (q))), (9, .int (nI (pt))), (0, .ref (h 0)), (1, .int (4)), (2, .int (z)), (3, .ref (g 1)), (4, .ref (g 2)), (5, .ref (g 3)), (6, .ref (g 4)), (7, .ref (g 5)), (8, .ref (g 7))] C dL_mixes_609 (by decide) rfl ?_
  refine g_iload 0 C rfl dL_mixes_611 ?_
  refine g_iload 3 C rfl dL_mixes_613 ?_
  refine g_icmp_ge 735 C dL_mixes_615 (by decide) (fun q => absurd q (nI_n1 (by omega))) (fun _ => ?_)
  refine g_iload 2 C rfl dL_mixes_618 ?_
  refine g_if_eq 735 C dL_mixes_620 (by decide) (fun _ => ?_) (fun q => absurd q (by decide))
  refine g_aload_n 8 C rfl dL_mixes_735 rfl ?_
  refine g_iconst 3 C dL_mixes_736 (by decide) ?_
  refine g_iload 6 C rfl dL_mixes_737 ?_
  refine g_iload 3 C rfl dL_mixes_739 ?_
  refine g_iconst 0 C dL_mixes_741 (by decide) ?_
  refine g_bA (na := 5) (av := [.ref (h 0), .int (3), .int (nI (q)), .int (nI (1 + s0)), .int (0)]) (k3_clean l D cI cJ hst h σ hI (q) (1 + s0)  0 (by omega) (by omega) hK) C gL_mixes_L_calls rfl (by decide +kernel) rfl ⟨Nat.le_of_ble_eq_true rfl, Nat.le_of_ble_eq_true rfl⟩ rfl (Nat.le_of_ble_eq_true rfl) ⟨by decide, by decide⟩ dL_mixes_742 ?_
  refine g_iload 2 C rfl dL_mixes_745 ?_
  refine g_if_eq 755 C dL_mixes_747 (by decide) (fun _ => ?_) (fun q => absurd q (by decide))
  refine g_sipush (-1003) C dL_mixes_755 (by decide) ?_
  refine g_icmp_ne 765 C dL_mixes_758 (by decide) (fun q => absurd q (by decide)) (fun _ => ?_)
  refine g_iconst 1 C dL_mixes_761 (by decide) ?_
  refine g_goto 766 C dL_mixes_762 (by decide) ?_
  exact g_iret C hr rfl dL_mixes_766 (by decide) (by decide) rfl rfl rfl
set_option maxRecDepth 100000 in
set_option maxHeartbeats 4000000 in
theorem x_clean0 (l : Launch) (D : va_G) (cI cJ : ClassId) (hst : l.stackTraces = false) (h g : Nat → Nat) (σ τ : gS) (hI : iA σ 4 6 4 4) (z : Int32) (pt : Nat) (e0 : lowN z 4 = pt) (hpt : pt < 4) (q s0 ly : Nat) (e1 : lowN (z >>> (3 &&& 31)) 4 = q) (e2 : lowN (z >>> (6 &&& 31)) 3 = s0) (hq : q < 4) (hs0 : s0 < 3) (el : τ.2 5 (7 * q) = nI ly) (hl : ly ≤ 3) (hh : τ.2 5 (7 * q + 3) = 0) (hc : 1 + s0 ≤ ly) (hK : 0 = th_clean σ 4 (nI q) (nI (1 + s0))) (hres : clS (σ.2 3) 6 q (cl (σ.2 4 q)) (1 + s0) = clU τ q ly (1 + s0)) : MC l yL_mixes wsL_mixes 9 187 D (tyIJ cI cJ) [.ref (h 0), .int (4), .int (z), .ref (g 1), .ref (g 2), .ref (g 3), .ref (g 4), .ref (g 5), .ref (g 7)] (wB cI h g σ τ) (wB cI h g (s_clean σ 6 q (1 + s0)) (cl24 τ q ly (1 + s0))) none (some (.int 1)) 1 := by
  refine MC.ofG (cc := cL_mixes) (maxL := 19) (ret := (some .boolean)) [(0, .ref (h 0)), (1, .int (4)), (2, .int (z)), (3, .ref (g 1)), (4, .ref (g 2)), (5, .ref (g 3)), (6, .ref (g 4)), (7, .ref (g 5)), (8, .ref (g 7))] (by decide) rfl (Nat.le_of_ble_eq_true rfl) rfl ?_
  intro p e s m args below meth c C hr hout
  refine g_iload_n 2 C rfl dL_mixes_0 rfl ?_
  refine g_iconst 4 C dL_mixes_1 (by decide) ?_
  refine g_bS (na := 2) (av := [.int (z), .int (4)]) (c_low l D cI cJ _ (z) 4 (pt) (by decide) (by decide) (e0)) C gL_mixes_L_low rfl (by decide +kernel) rfl ⟨Nat.le_of_ble_eq_true rfl, Nat.le_of_ble_eq_true rfl⟩ rfl (Nat.le_of_ble_eq_true rfl) ⟨by decide, by decide⟩ dL_mixes_2 ?_
  refine g_istore [(9, .int (nI (pt))), (0, .ref (h 0)), (1, .int (4)), (2, .int (z)), (3, .ref (g 1)), (4, .ref (g 2)), (5, .ref (g 3)), (6, .ref (g 4)), (7, .ref (g 5)), (8, .ref (g 7))] C dL_mixes_5 (by decide) rfl ?_
  refine g_iload_n 2 C rfl dL_mixes_7 rfl ?_
  refine g_if_ne 139 C dL_mixes_8 (by decide) (fun _ => ?_) (fun q => absurd q (by decide))
  refine g_iload_n 2 C rfl dL_mixes_139 rfl ?_
  refine g_iconst 1 C dL_mixes_140 (by decide) ?_
  refine g_icmp_ne 280 C dL_mixes_141 (by decide) (fun _ => ?_) (fun q => absurd q (by decide))
  refine g_iload_n 2 C rfl dL_mixes_280 rfl ?_
  refine g_iconst 2 C dL_mixes_281 (by decide) ?_
  refine g_icmp_ne 361 C dL_mixes_282 (by decide) (fun _ => ?_) (fun q => absurd q (by decide))
  refine g_iload_n 3 C rfl dL_mixes_361 rfl ?_
  refine g_iconst 3 C dL_mixes_362 (by decide) ?_
  refine g_ishr C dL_mixes_363 ?_
  refine g_iconst 4 C dL_mixes_364 (by decide) ?_
  refine g_bS (na := 2) (av := [.int (z >>> (3 &&& 31)), .int (4)]) (c_low l D cI cJ _ ((z >>> (3 &&& 31))) 4 (q) (by decide) (by decide) (e1)) C gL_mixes_L_low rfl (by decide +kernel) rfl ⟨Nat.le_of_ble_eq_true rfl, Nat.le_of_ble_eq_true rfl⟩ rfl (Nat.le_of_ble_eq_true rfl) ⟨by decide, by decide⟩ dL_mixes_365 ?_
  refine g_istore [(10, .int (nI (q))), (9, .int (nI (pt))), (0, .ref (h 0)), (1, .int (4)), (2, .int (z)), (3, .ref (g 1)), (4, .ref (g 2)), (5, .ref (g 3)), (6, .ref (g 4)), (7, .ref (g 5)), (8, .ref (g 7))] C dL_mixes_368 (by decide) rfl ?_
  refine g_aload 9 C rfl dL_mixes_370 ?_
  refine g_bipush 7 C dL_mixes_372 (by decide) ?_
  refine g_iload 0 C rfl dL_mixes_374 ?_
  refine g_imulN 7 q C dL_mixes_376 ?_
  refine g_ialdN (cA := cI) (n := 28) (a := g 5) (f := τ.2 5) (7 * q) 18 0 C rfl rfl (by omega) (by decide) dL_mixes_377 ?_
  refine g_is (nI (ly)) el ?_
  refine g_istore [(11, .int (nI (ly))), (10, .int (nI (q))), (9, .int (nI (pt))), (0, .ref (h 0)), (1, .int (4)), (2, .int (z)), (3, .ref (g 1)), (4, .ref (g 2)), (5, .ref (g 3)), (6, .ref (g 4)), (7, .ref (g 5)), (8, .ref (g 7))] C dL_mixes_378 (by decide) rfl ?_
  refine g_aload 10 C rfl dL_mixes_380 ?_
  refine g_bipush 7 C dL_mixes_382 (by decide) ?_
  refine g_iload 1 C rfl dL_mixes_384 ?_
  refine g_imulN 7 q C dL_mixes_386 ?_
  refine g_iconst 3 C dL_mixes_387 (by decide) ?_
  refine g_iaddN (7 * q) 3 C dL_mixes_388 ?_
  refine g_ialdN (cA := cI) (n := 28) (a := g 5) (f := τ.2 5) ((7 * q) + 3) 18 0 C rfl rfl (by omega) (by decide) dL_mixes_389 ?_
  refine g_if_ne 397 C dL_mixes_390 (by decide) (fun q => absurd hh q) (fun _ => ?_)
  refine g_iconst 1 C dL_mixes_393 (by decide) ?_
  refine g_goto 398 C dL_mixes_394 (by decide) ?_
  refine g_istore [(12, .int (1)), (11, .int (nI (ly))), (10, .int (nI (q))), (9, .int (nI (pt))), (0, .ref (h 0)), (1, .int (4)), (2, .int (z)), (3, .ref (g 1)), (4, .ref (g 2)), (5, .ref (g 3)), (6, .ref (g 4)), (7, .ref (g 5)), (8, .ref (g 7))] C dL_mixes_398 (by decide) rfl ?_
  refine g_iload_n 5 C rfl dL_mixes_400 rfl ?_
  refine g_iconst 3 C dL_mixes_401 (by decide) ?_
  refine g_icmp_ne 574 C dL_mixes_402 (by decide) (fun _ => ?_) (fun q => absurd q (by decide))
  refine g_iconst 1 C dL_mixes_574 (by decide) ?_
  refine g_iload_n 6 C rfl dL_mixes_575 rfl ?_
  refine g_bipush 6 C dL_mixes_576 (by decide) ?_
  refine g_ishr C dL_mixes_578 ?_
  refine g_iconst 3 C dL_mixes_579 (by decide) ?_
  refine g_bS (na := 2) (av := [.int (z >>> (6 &&& 31)), .int (3)]) (c_low l D cI cJ _ ((z >>> (6 &&& 31))) 3 (s0) (by decide) (by decide) (e2)) C gL_mixes_L_low rfl (by decide +kernel) rfl ⟨Nat.le_of_ble_eq_true rfl, Nat.le_of_ble_eq_true rfl⟩ rfl (Nat.le_of_ble_eq_true rfl) ⟨by decide, by decide⟩ dL_mixes_580 ?_
  refine g_iaddN 1 s0 C dL_mixes_583 ?_
  refine g_istore [(13, .int (nI (1 + s0))), (12, .int (1)), (11, .int (nI (ly))), (10, .int (nI (q))), (9, .int (nI (pt))), (0, .ref (h 0)), (1, .int (4)), (2, .int (z)), (3, .ref (g 1)), (4, .ref (g 2)), (5, .ref (g 3)), (6, .ref (g 4)), (7, .ref (g 5)), (8, .ref (g 7))] C dL_mixes_584 (by decide) rfl ?_
  refine g_iload 1 C rfl dL_mixes_586 ?_
  refine g_if_eq 602 C dL_mixes_588 (by decide) (fun q => absurd q (by decide)) (fun _ => ?_)
  refine g_iload 2 C rfl dL_mixes_591 ?_
  refine g_iload 0 C rfl dL_mixes_593 ?_
  refine g_icmp_lt 602 C dL_mixes_595 (by decide) (fun q => absurd q (fun w => absurd ((nI_ltI (by omega) (by omega)).mp w) (by omega))) (fun _ => ?_)
  refine g_iconst 1 C dL_mixes_598 (by decide) ?_
  refine g_goto 603 C dL_mixes_599 (by decide) ?_
  refine g_istore [(14, .int (1)), (13, .int (nI (1 + s0))), (12, .int (1)), (11, .int (nI (ly))), (10, .int (nI (q))), (9, .int (nI (pt))), (0, .ref (h 0)), (1, .int (4)), (2, .int (z)), (3, .ref (g 1)), (4, .ref (g 2)), (5, .ref (g 3)), (6, .ref (g 4)), (7, .ref (g 5)), (8, .ref (g 7))] C dL_mixes_603 (by decide) rfl ?_
  refine g_iconst 0 C dL_mixes_605 (by decide) ?_
  refine g_istore [(15, .int (0)), (14, .int (1)), (13, .int (nI (1 + s0))), (12, .int (1)), (11, .int (nI (ly))), (10, .int (nI (q))), (9, .int (nI (pt))), (0, .ref (h 0)), (1, .int (4)), (2, .int (z)), (3, .ref (g 1)), (4, .ref (g 2)), (5, .ref (g 3)), (6, .ref (g 4)), (7, .ref (g 5)), (8, .ref (g 7))] C dL_mixes_606 (by decide) rfl ?_
  refine g_iconst 0 C dL_mixes_608 (by decide) ?_
  refine g_istore [(16, .int (0)), (15, .int (0)), (14, .int (1)), (13, .int (nI (1 + s0))), (12, .int (1)), (11, .int (nI (ly))), (10, .int (nI (q))), (9, .int (nI (pt))), (0, .ref (h 0)), (1, .int (4)), (2, .int (z)), (3, .ref (g 1)), (4, .ref (g 2)), (5, .ref (g 3)), (6, .ref (g 4)), (7, .ref (g 5)), (8, .ref (g 7))] C dL_mixes_609 (by decide) rfl ?_
  have loop_611 : ∀ (fu : Nat) (k : Nat), k ≤ 1 + s0 → 2 + s0 ≤ k + fu → G p l e ({ frames := 9, cells := 1, slots := 6 * 1, locals := 187 } : Room) s m args below meth c D (va_A (wB cI h g σ τ) s.heap.size) 19 0 0 (gQ below D (wB cI h g σ τ) (wB cI h g (s_clean σ 6 q (1 + s0)) (cl24 τ q ly (1 + s0))) none (some (.int 1)) 1 args s) (wB cI h g σ (cl24 τ q ly k)) [(0, .ref (h 0)), (3, .ref (g 1)), (5, .ref (g 3)), (6, .ref (g 4)), (7, .ref (g 5)), (10, .int (nI (q))), (13, .int (nI (1 + s0))), (14, .int (1)), (15, .int (clU τ q ly k)), (16, .int (nI (k)))] 611 [] := by
    intro fu
    induction fu with
    | zero => intro k hk hf; exact absurd True.intro (by omega)
    | succ fu ih_611 =>
      intro k hk hf
      refine g_iload 9 C rfl dL_mixes_611 ?_
      refine g_iload 6 C rfl dL_mixes_613 ?_
      refine g_icmp_ge 735 C dL_mixes_615 (by decide) (fun c_615_1 => ?_) (fun c_615_1 => ?_)
      ·
        have d_615_1 : (1 + s0) ≤ k := (nI_leI (a := (1 + s0)) (b := k) (by omega) (by omega)).mp c_615_1
        obtain rfl : k = 1 + s0 := by omega
        refine g_aload_n 0 C rfl dL_mixes_735 rfl ?_
        refine g_iconst 3 C dL_mixes_736 (by decide) ?_
        refine g_iload 5 C rfl dL_mixes_737 ?_
        refine g_iload 6 C rfl dL_mixes_739 ?_
        refine g_iconst 0 C dL_mixes_741 (by decide) ?_
        refine g_bA (na := 5) (av := [.ref (h 0), .int (3), .int (nI (q)), .int (nI (1 + s0)), .int (0)]) (k0_clean l D cI cJ hst h σ hI (q) (1 + s0)  0 (by omega) (by omega) hK) C gL_mixes_L_calls rfl (by decide +kernel) rfl ⟨Nat.le_of_ble_eq_true rfl, Nat.le_of_ble_eq_true rfl⟩ rfl (Nat.le_of_ble_eq_true rfl) ⟨by decide, by decide⟩ dL_mixes_742 ?_
        refine g_w (wB cI h g (s_clean σ 6 q (1 + s0)) (cl24 τ q ly (1 + s0))) rfl ?_
        refine g_iload 7 C rfl dL_mixes_745 ?_
        refine g_if_eq 755 C dL_mixes_747 (by decide) (fun q => absurd q (by decide)) (fun _ => ?_)
        refine g_iload 8 C rfl dL_mixes_750 ?_
        refine g_goto 758 C dL_mixes_752 (by decide) ?_
        refine g_icmp_ne 765 C dL_mixes_758 (by decide) (fun q => absurd hres q) (fun _ => ?_)
        refine g_iconst 1 C dL_mixes_761 (by decide) ?_
        refine g_goto 766 C dL_mixes_762 (by decide) ?_
        exact g_iret C hr rfl dL_mixes_766 (by decide) (by decide) rfl rfl rfl
      ·
        have d_615_1 : ¬ (1 + s0) ≤ k := fun zz => c_615_1 ((nI_leI (a := (1 + s0)) (b := k) (by omega) (by omega)).mpr zz)
        refine g_iload 7 C rfl dL_mixes_618 ?_
        refine g_if_eq 735 C dL_mixes_620 (by decide) (fun q => absurd q (by decide)) (fun _ => ?_)
        refine g_aload 4 C rfl dL_mixes_623 ?_
        refine g_bipush 7 C dL_mixes_625 (by decide) ?_
        refine g_iload 5 C rfl dL_mixes_627 ?_
        refine g_imulN 7 q C dL_mixes_629 ?_
        refine g_dup2 C dL_mixes_630 rfl rfl ?_
        refine g_ialdN (cA := cI) (n := 28) (a := g 5) (f := (cl24 τ q ly k).2 5) (7 * q) 18 0 C rfl rfl (by omega) (by decide) dL_mixes_631 ?_
        refine g_is (nI (ly - k)) (cl24_lay el k) ?_
        refine g_iconst 1 C dL_mixes_632 (by decide) ?_
        refine g_isubN (ly - k) 1 C (by omega) dL_mixes_633 ?_
        refine g_iastN (cA := cI) (n := 28) (a := g 5) (f := (cl24 τ q ly k).2 5) (x := nI ((ly - k) - 1)) (7 * q) 18 0 (wB cI h g σ (sA (cl24 τ q ly k) 5 (upd ((cl24 τ q ly k).2 5) (7 * q) (nI ((ly - k) - 1))))) C rfl rfl (by omega) (by decide) rfl dL_mixes_634 ?_
        refine g_iconst 0 C dL_mixes_635 (by decide) ?_
        refine g_istore [(17, .int (0)), (0, .ref (h 0)), (3, .ref (g 1)), (5, .ref (g 3)), (6, .ref (g 4)), (7, .ref (g 5)), (10, .int (nI (q))), (13, .int (nI (1 + s0))), (14, .int (1)), (15, .int (clU τ q ly k)), (16, .int (nI (k)))] C dL_mixes_636 (by decide) rfl ?_
        have loop_638 : ∀ (fu : Nat) (n : Nat), n ≤ 6 → 7 ≤ n + fu → G p l e ({ frames := 9, cells := 1, slots := 6 * 1, locals := 187 } : Room) s m args below meth c D (va_A (wB cI h g σ τ) s.heap.size) 19 0 0 (gQ below D (wB cI h g σ τ) (wB cI h g (s_clean σ 6 q (1 + s0)) (cl24 τ q ly (1 + s0))) none (some (.int 1)) 1 args s) (wB cI h g σ (sA (sA (cl24 τ q ly k) 5 (upd ((cl24 τ q ly k).2 5) (7 * q) (nI (ly - k - 1)))) 1 (wasT ((cl24 τ q ly k).2 1) (fun n => grL (cl24 τ q ly k) (3 * q + (ly - k - 1)) n) n))) [(0, .ref (h 0)), (3, .ref (g 1)), (5, .ref (g 3)), (6, .ref (g 4)), (7, .ref (g 5)), (10, .int (nI (q))), (13, .int (nI (1 + s0))), (14, .int (1)), (15, .int (clU τ q ly k + isum (fun n => grL (cl24 τ q ly k) (3 * q + (ly - k - 1)) n) n)), (16, .int (nI (k))), (17, .int (nI (n)))] 638 [] := by
          intro fu
          induction fu with
          | zero => intro n hn hfn; exact absurd True.intro (by omega)
          | succ fu ih_638 =>
            intro n hn hfn
            refine g_iload 10 C rfl dL_mixes_638 ?_
            refine g_bipush 6 C dL_mixes_640 (by decide) ?_
            refine g_icmp_ge 695 C dL_mixes_642 (by decide) (fun c_642_2 => ?_) (fun c_642_2 => ?_)
            ·
              have d_642_2 : 6 ≤ n := (nI_leI (a := 6) (b := n) (by omega) (by omega)).mp c_642_2
              obtain rfl : n = 6 := by omega
              refine g_aload 2 C rfl dL_mixes_695 ?_
              refine g_iload 5 C rfl dL_mixes_697 ?_
              refine g_aload 4 C rfl dL_mixes_699 ?_
              refine g_bipush 7 C dL_mixes_701 (by decide) ?_
              refine g_iload 5 C rfl dL_mixes_703 ?_
              refine g_imulN 7 q C dL_mixes_705 ?_
              refine g_ialdN (cA := cI) (n := 28) (a := g 5) (f := upd ((cl24 τ q ly k).2 5) (7 * q) (nI (ly - k - 1))) (7 * q) 18 0 C rfl rfl (by omega) (by decide) dL_mixes_706 ?_
              refine g_is (nI (ly - k - 1)) (by rw [upd, if_pos rfl]) ?_
              refine g_bS (na := 2) (av := [.int (nI (q)), .int (nI (ly - k - 1))]) (c_at l D cI cJ _ q (ly - k - 1)) C gL_mixes_L_at rfl (by decide +kernel) rfl ⟨Nat.le_of_ble_eq_true rfl, Nat.le_of_ble_eq_true rfl⟩ rfl (Nat.le_of_ble_eq_true rfl) ⟨by decide, by decide⟩ dL_mixes_707 ?_
              refine g_iconst 0 C dL_mixes_710 (by decide) ?_
              refine g_iastN (cA := cI) (n := 12) (a := g 3) (f := (cl24 τ q ly k).2 3) (x := 0) (3 * q + (ly - k - 1)) 16 0 (wB cI h g σ (sA (sA (sA (cl24 τ q ly k) 5 (upd ((cl24 τ q ly k).2 5) (7 * q) (nI (ly - k - 1)))) 1 (wasT ((cl24 τ q ly k).2 1) (fun n => grL (cl24 τ q ly k) (3 * q + (ly - k - 1)) n) 6)) 3 (upd ((cl24 τ q ly k).2 3) (3 * q + (ly - k - 1)) (0)))) C rfl rfl (by omega) (by decide) rfl dL_mixes_711 ?_
              refine g_aload 3 C rfl dL_mixes_712 ?_
              refine g_iload 5 C rfl dL_mixes_714 ?_
              refine g_aload 4 C rfl dL_mixes_716 ?_
              refine g_bipush 7 C dL_mixes_718 (by decide) ?_
              refine g_iload 5 C rfl dL_mixes_720 ?_
              refine g_imulN 7 q C dL_mixes_722 ?_
              refine g_ialdN (cA := cI) (n := 28) (a := g 5) (f := upd ((cl24 τ q ly k).2 5) (7 * q) (nI (ly - k - 1))) (7 * q) 18 0 C rfl rfl (by omega) (by decide) dL_mixes_723 ?_
              refine g_is (nI (ly - k - 1)) (by rw [upd, if_pos rfl]) ?_
              refine g_bS (na := 2) (av := [.int (nI (q)), .int (nI (ly - k - 1))]) (c_at l D cI cJ _ q (ly - k - 1)) C gL_mixes_L_at rfl (by decide +kernel) rfl ⟨Nat.le_of_ble_eq_true rfl, Nat.le_of_ble_eq_true rfl⟩ rfl (Nat.le_of_ble_eq_true rfl) ⟨by decide, by decide⟩ dL_mixes_724 ?_
              refine g_iconst 0 C dL_mixes_727 (by decide) ?_
              refine g_iastN (cA := cI) (n := 12) (a := g 4) (f := (cl24 τ q ly k).2 4) (x := 0) (3 * q + (ly - k - 1)) 17 0 (wB cI h g σ (sA (sA (sA (sA (cl24 τ q ly k) 5 (upd ((cl24 τ q ly k).2 5) (7 * q) (nI (ly - k - 1)))) 1 (wasT ((cl24 τ q ly k).2 1) (fun n => grL (cl24 τ q ly k) (3 * q + (ly - k - 1)) n) 6)) 3 (upd ((cl24 τ q ly k).2 3) (3 * q + (ly - k - 1)) (0))) 4 (upd ((cl24 τ q ly k).2 4) (3 * q + (ly - k - 1)) (0)))) C rfl rfl (by omega) (by decide) rfl dL_mixes_728 ?_
              refine g_iincN 9 k 1 [(16, .int (nI (k + 1))), (0, .ref (h 0)), (3, .ref (g 1)), (5, .ref (g 3)), (6, .ref (g 4)), (7, .ref (g 5)), (10, .int (nI (q))), (13, .int (nI (1 + s0))), (14, .int (1)), (15, .int (clU τ q ly k + isum (fun n => grL (cl24 τ q ly k) (3 * q + (ly - k - 1)) n) 6)), (17, .int (nI (6)))] C dL_mixes_729 rfl (by decide) (by decide) rfl ?_
              refine g_goto 611 C dL_mixes_732 (by decide) ?_
              refine g_lv [1, 2, 3, 4, 5, 6, 7, 8, 9, 0] [(0, .ref (h 0)), (3, .ref (g 1)), (5, .ref (g 3)), (6, .ref (g 4)), (7, .ref (g 5)), (10, .int (nI (q))), (13, .int (nI (1 + s0))), (14, .int (1)), (15, .int (clU τ q ly k + isum (fun n => grL (cl24 τ q ly k) (3 * q + (ly - k - 1)) n) 6)), (16, .int (nI (k + 1)))] rfl ?_
              exact ih_611 (k + 1) (by omega) (by omega)
            ·
              have d_642_2 : ¬ 6 ≤ n := fun zz => c_642_2 ((nI_leI (a := 6) (b := n) (by omega) (by omega)).mpr zz)
              refine g_iload 5 C rfl dL_mixes_645 ?_
              refine g_aload 4 C rfl dL_mixes_647 ?_
              refine g_bipush 7 C dL_mixes_649 (by decide) ?_
              refine g_iload 5 C rfl dL_mixes_651 ?_
              refine g_imulN 7 q C dL_mixes_653 ?_
              refine g_ialdN (cA := cI) (n := 28) (a := g 5) (f := upd ((cl24 τ q ly k).2 5) (7 * q) (nI (ly - k - 1))) (7 * q) 18 0 C rfl rfl (by omega) (by decide) dL_mixes_654 ?_
              refine g_is (nI (ly - k - 1)) (by rw [upd, if_pos rfl]) ?_
              refine g_bS (na := 2) (av := [.int (nI (q)), .int (nI (ly - k - 1))]) (c_at l D cI cJ _ q (ly - k - 1)) C gL_mixes_L_at rfl (by decide +kernel) rfl ⟨Nat.le_of_ble_eq_true rfl, Nat.le_of_ble_eq_true rfl⟩ rfl (Nat.le_of_ble_eq_true rfl) ⟨by decide, by decide⟩ dL_mixes_655 ?_
              refine g_iload 10 C rfl dL_mixes_658 ?_
              refine g_aload 2 C rfl dL_mixes_660 ?_
              refine g_aload 3 C rfl dL_mixes_662 ?_
              refine g_bL (na := 4) (av := [.int (nI (3 * q + (ly - k - 1))), .int (nI (n)), .ref (g 3), .ref (g 4)]) (c_grams l D cI cJ g (sA (sA (cl24 τ q ly k) 5 (upd ((cl24 τ q ly k).2 5) (7 * q) (nI (ly - k - 1)))) 1 (wasT ((cl24 τ q ly k).2 1) (fun n => grL (cl24 τ q ly k) (3 * q + (ly - k - 1)) n) n)) (3 * q + (ly - k - 1)) n (by omega) (by omega)) C gL_mixes_L_grams rfl (by decide +kernel) rfl ⟨Nat.le_of_ble_eq_true rfl, Nat.le_of_ble_eq_true rfl⟩ rfl (Nat.le_of_ble_eq_true rfl) ⟨by decide, by decide⟩ dL_mixes_664 ?_
              refine g_is ((grL (cl24 τ q ly k) (3 * q + (ly - k - 1)) n)) rfl ?_
              refine g_istore [(18, .int (grL (cl24 τ q ly k) (3 * q + (ly - k - 1)) n)), (0, .ref (h 0)), (3, .ref (g 1)), (5, .ref (g 3)), (6, .ref (g 4)), (7, .ref (g 5)), (10, .int (nI (q))), (13, .int (nI (1 + s0))), (14, .int (1)), (15, .int (clU τ q ly k + isum (fun n => grL (cl24 τ q ly k) (3 * q + (ly - k - 1)) n) n)), (16, .int (nI (k))), (17, .int (nI (n)))] C dL_mixes_667 (by decide) rfl ?_
              refine g_aload_n 2 C rfl dL_mixes_669 rfl ?_
              refine g_iconst 3 C dL_mixes_670 (by decide) ?_
              refine g_iload 11 C rfl dL_mixes_671 ?_
              refine g_imulN 3 n C dL_mixes_673 ?_
              refine g_iconst 2 C dL_mixes_674 (by decide) ?_
              refine g_iaddN (3 * n) 2 C dL_mixes_675 ?_
              refine g_dup2 C dL_mixes_676 rfl rfl ?_
              refine g_ialdN (cA := cI) (n := 18) (a := g 1) (f := wasT ((cl24 τ q ly k).2 1) (fun n => grL (cl24 τ q ly k) (3 * q + (ly - k - 1)) n) n) ((3 * n) + 2) 14 0 C rfl rfl (by omega) (by decide) dL_mixes_677 ?_
              refine g_iload 0 C rfl dL_mixes_678 ?_
              refine g_iadd C dL_mixes_680 ?_
              refine g_iastN (cA := cI) (n := 18) (a := g 1) (f := wasT ((cl24 τ q ly k).2 1) (fun n => grL (cl24 τ q ly k) (3 * q + (ly - k - 1)) n) n) (x := (((wasT ((cl24 τ q ly k).2 1) (fun n => grL (cl24 τ q ly k) (3 * q + (ly - k - 1)) n) n) ((3 * n) + 2)) + (grL (cl24 τ q ly k) (3 * q + (ly - k - 1)) n))) ((3 * n) + 2) 14 0 (wB cI h g σ (sA (sA (cl24 τ q ly k) 5 (upd ((cl24 τ q ly k).2 5) (7 * q) (nI (ly - k - 1)))) 1 (upd (wasT ((cl24 τ q ly k).2 1) (fun n => grL (cl24 τ q ly k) (3 * q + (ly - k - 1)) n) n) ((3 * n) + 2) ((((wasT ((cl24 τ q ly k).2 1) (fun n => grL (cl24 τ q ly k) (3 * q + (ly - k - 1)) n) n) ((3 * n) + 2)) + (grL (cl24 τ q ly k) (3 * q + (ly - k - 1)) n)))))) C rfl rfl (by omega) (by decide) rfl dL_mixes_681 ?_
              refine g_iload 9 C rfl dL_mixes_682 ?_
              refine g_iload 0 C rfl dL_mixes_684 ?_
              refine g_iadd C dL_mixes_686 ?_
              refine g_is ((clU τ q ly k + isum (fun n => grL (cl24 τ q ly k) (3 * q + (ly - k - 1)) n) (n + 1))) (Int32.add_assoc _ _ _) ?_
              refine g_istore [(15, .int (clU τ q ly k + isum (fun n => grL (cl24 τ q ly k) (3 * q + (ly - k - 1)) n) (n + 1))), (18, .int (grL (cl24 τ q ly k) (3 * q + (ly - k - 1)) n)), (0, .ref (h 0)), (3, .ref (g 1)), (5, .ref (g 3)), (6, .ref (g 4)), (7, .ref (g 5)), (10, .int (nI (q))), (13, .int (nI (1 + s0))), (14, .int (1)), (16, .int (nI (k))), (17, .int (nI (n)))] C dL_mixes_687 (by decide) rfl ?_
              refine g_iincN 11 n 1 [(17, .int (nI (n + 1))), (15, .int (clU τ q ly k + isum (fun n => grL (cl24 τ q ly k) (3 * q + (ly - k - 1)) n) (n + 1))), (18, .int (grL (cl24 τ q ly k) (3 * q + (ly - k - 1)) n)), (0, .ref (h 0)), (3, .ref (g 1)), (5, .ref (g 3)), (6, .ref (g 4)), (7, .ref (g 5)), (10, .int (nI (q))), (13, .int (nI (1 + s0))), (14, .int (1)), (16, .int (nI (k)))] C dL_mixes_689 rfl (by decide) (by decide) rfl ?_
              refine g_goto 638 C dL_mixes_692 (by decide) ?_
              refine g_lv [3, 4, 5, 6, 7, 8, 9, 10, 1, 11, 0] [(0, .ref (h 0)), (3, .ref (g 1)), (5, .ref (g 3)), (6, .ref (g 4)), (7, .ref (g 5)), (10, .int (nI (q))), (13, .int (nI (1 + s0))), (14, .int (1)), (15, .int (clU τ q ly k + isum (fun n => grL (cl24 τ q ly k) (3 * q + (ly - k - 1)) n) (n + 1))), (16, .int (nI (k))), (17, .int (nI (n + 1)))] rfl ?_
              exact ih_638 (n + 1) (by omega) (by omega)
        refine g_lv [1, 2, 3, 4, 5, 6, 7, 8, 9, 10, 0] [(0, .ref (h 0)), (3, .ref (g 1)), (5, .ref (g 3)), (6, .ref (g 4)), (7, .ref (g 5)), (10, .int (nI (q))), (13, .int (nI (1 + s0))), (14, .int (1)), (15, .int (clU τ q ly k)), (16, .int (nI (k))), (17, .int (0))] rfl ?_
        have hl0 := loop_638 7 0 (by omega) (by omega)
        rw [show clU τ q ly k + isum (fun n => grL (cl24 τ q ly k) (3 * q + (ly - k - 1)) n) 0 = clU τ q ly k from Int32.add_zero _] at hl0
        exact hl0
  refine g_lv [8, 11, 13, 14, 15, 6, 3, 2, 1, 0] [(0, .ref (h 0)), (3, .ref (g 1)), (5, .ref (g 3)), (6, .ref (g 4)), (7, .ref (g 5)), (10, .int (nI (q))), (13, .int (nI (1 + s0))), (14, .int (1)), (15, .int (0)), (16, .int (0))] rfl ?_
  exact loop_611 (2 + s0) 0 (by omega) (by omega)
