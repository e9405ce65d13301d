/-! The law's trades. -/
set_option maxRecDepth 100000 in
set_option maxHeartbeats 4000000 in
theorem y_lend0 (l : Launch) (D : va_G) (cI cJ : ClassId) (hst : l.stackTraces = false) (h g : Nat → Nat) (σ τ : gS) (hI : iA σ 4 6 4 4) (z : Int32) (q hs d0 : Nat) (e0 : lowN z 4 = q) (e1 : lowN (z >>> (2 &&& 31)) 4 = hs) (e2 : lowN (z >>> (4 &&& 31)) 9 = d0) (hq : q < 4) (hhs : hs < 4) (hd0 : d0 < 9) (T : Nat) (hT : T ≤ 600) (hS : smlV σ T) (hV : relV σ (sA τ 5 (upd (upd (τ.2 5) (7 * q + 3) (nI (hs + 1))) (7 * q + 4) (nI (1 + d0))))) (hh : τ.2 5 (7 * q + 3) = 0) (hc : τ.2 5 (7 * q + 1) < 10) (hK : 0 = th_lend σ 4 (nI q) (nI hs) (nI (1 + d0))) : MC l yL_trades wsL_trades 9 187 D (tyIJ cI cJ) [.ref (h 0), .int (0), .int (z), .ref (g 1), .ref (g 3), .ref (g 4), .ref (g 5), .ref (g 6)] (wB cI h g σ τ) (wB cI h g (s_lend σ 4 6 4 q hs (nI (1 + d0))) (sA τ 5 (upd (upd (upd (τ.2 5) (7 * q + 3) (nI (hs + 1))) (7 * q + 4) (nI (1 + d0))) (7 * q + 5) (1 + valA σ 4 6 4 q / 100)))) none (some (.int 1)) 1 := by
  refine MC.ofG (cc := cL_trades) (maxL := 13) (ret := (some .boolean)) [(0, .ref (h 0)), (1, .int (0)), (2, .int (z)), (3, .ref (g 1)), (4, .ref (g 3)), (5, .ref (g 4)), (6, .ref (g 5)), (7, .ref (g 6))] (by decide) rfl (Nat.le_of_ble_eq_true rfl) rfl ?_
  intro p e s m args below meth c C hr hout
  refine g_iload_n 2 C rfl dL_trades_0 rfl ?_
  refine g_iconst 4 C dL_trades_1 (by decide) ?_
  refine g_bS (na := 2) (av := [.int (z), .int (4)]) (c_low l D cI cJ _ (z) 4 (q) (by decide) (by decide) (e0)) C gL_trades_L_low rfl (by decide +kernel) rfl ⟨Nat.le_of_ble_eq_true rfl, Nat.le_of_ble_eq_true rfl⟩ rfl (Nat.le_of_ble_eq_true rfl) ⟨by decide, by decide⟩ dL_trades_2 ?_
  refine g_istore [(8, .int (nI (q))), (0, .ref (h 0)), (1, .int (0)), (2, .int (z)), (3, .ref (g 1)), (4, .ref (g 3)), (5, .ref (g 4)), (6, .ref (g 5)), (7, .ref (g 6))] C dL_trades_5 (by decide) rfl ?_
  refine g_aload 7 C rfl dL_trades_7 ?_
  refine g_bipush 7 C dL_trades_9 (by decide) ?_
  refine g_iload 0 C rfl dL_trades_11 ?_
  refine g_imulN 7 q C dL_trades_13 ?_
  refine g_iconst 3 C dL_trades_14 (by decide) ?_
  refine g_iaddN (7 * q) 3 C dL_trades_15 ?_
  refine g_ialdN (cA := cI) (n := 28) (a := g 5) (f := τ.2 5) ((7 * q) + 3) 18 0 C rfl rfl (by omega) (by decide) dL_trades_16 ?_
  refine g_if_ne 24 C dL_trades_17 (by decide) (fun q => absurd hh q) (fun _ => ?_)
  refine g_iconst 1 C dL_trades_20 (by decide) ?_
  refine g_goto 25 C dL_trades_21 (by decide) ?_
  refine g_istore [(9, .int (1)), (8, .int (nI (q))), (0, .ref (h 0)), (1, .int (0)), (2, .int (z)), (3, .ref (g 1)), (4, .ref (g 3)), (5, .ref (g 4)), (6, .ref (g 5)), (7, .ref (g 6))] C dL_trades_25 (by decide) rfl ?_
  refine g_iload_n 3 C rfl dL_trades_27 rfl ?_
  refine g_if_ne 178 C dL_trades_28 (by decide) (fun q => absurd q (by decide)) (fun _ => ?_)
  refine g_iload_n 4 C rfl dL_trades_31 rfl ?_
  refine g_iconst 2 C dL_trades_32 (by decide) ?_
  refine g_ishr C dL_trades_33 ?_
  refine g_iconst 4 C dL_trades_34 (by decide) ?_
  refine g_bS (na := 2) (av := [.int (z >>> (2 &&& 31)), .int (4)]) (c_low l D cI cJ _ ((z >>> (2 &&& 31))) 4 (hs) (by decide) (by decide) (e1)) C gL_trades_L_low rfl (by decide +kernel) rfl ⟨Nat.le_of_ble_eq_true rfl, Nat.le_of_ble_eq_true rfl⟩ rfl (Nat.le_of_ble_eq_true rfl) ⟨by decide, by decide⟩ dL_trades_35 ?_
  refine g_istore [(10, .int (nI (hs))), (9, .int (1)), (8, .int (nI (q))), (0, .ref (h 0)), (1, .int (0)), (2, .int (z)), (3, .ref (g 1)), (4, .ref (g 3)), (5, .ref (g 4)), (6, .ref (g 5)), (7, .ref (g 6))] C dL_trades_38 (by decide) rfl ?_
  refine g_iconst 1 C dL_trades_40 (by decide) ?_
  refine g_iload_n 5 C rfl dL_trades_41 rfl ?_
  refine g_iconst 4 C dL_trades_42 (by decide) ?_
  refine g_ishr C dL_trades_43 ?_
  refine g_bipush 9 C dL_trades_44 (by decide) ?_
  refine g_bS (na := 2) (av := [.int (z >>> (4 &&& 31)), .int (9)]) (c_low l D cI cJ _ ((z >>> (4 &&& 31))) 9 (d0) (by decide) (by decide) (e2)) C gL_trades_L_low rfl (by decide +kernel) rfl ⟨Nat.le_of_ble_eq_true rfl, Nat.le_of_ble_eq_true rfl⟩ rfl (Nat.le_of_ble_eq_true rfl) ⟨by decide, by decide⟩ dL_trades_46 ?_
  refine g_iaddN 1 d0 C dL_trades_49 ?_
  refine g_istore [(11, .int (nI (1 + d0))), (10, .int (nI (hs))), (9, .int (1)), (8, .int (nI (q))), (0, .ref (h 0)), (1, .int (0)), (2, .int (z)), (3, .ref (g 1)), (4, .ref (g 3)), (5, .ref (g 4)), (6, .ref (g 5)), (7, .ref (g 6))] C dL_trades_50 (by decide) rfl ?_
  refine g_iload 2 C rfl dL_trades_52 ?_
  refine g_if_eq 76 C dL_trades_54 (by decide) (fun q => absurd q (by decide)) (fun _ => ?_)
  refine g_aload 10 C rfl dL_trades_57 ?_
  refine g_bipush 7 C dL_trades_59 (by decide) ?_
  refine g_iload 3 C rfl dL_trades_61 ?_
  refine g_imulN 7 q C dL_trades_63 ?_
  refine g_iconst 1 C dL_trades_64 (by decide) ?_
  refine g_iaddN (7 * q) 1 C dL_trades_65 ?_
  refine g_ialdN (cA := cI) (n := 28) (a := g 5) (f := τ.2 5) ((7 * q) + 1) 18 0 C rfl rfl (by omega) (by decide) dL_trades_66 ?_
  refine g_bipush 10 C dL_trades_67 (by decide) ?_
  refine g_icmp_ge 76 C dL_trades_69 (by decide) (fun q => absurd q (i32_nle hc)) (fun _ => ?_)
  refine g_iconst 1 C dL_trades_72 (by decide) ?_
  refine g_goto 77 C dL_trades_73 (by decide) ?_
  refine g_istore [(12, .int (1)), (11, .int (nI (1 + d0))), (10, .int (nI (hs))), (9, .int (1)), (8, .int (nI (q))), (0, .ref (h 0)), (1, .int (0)), (2, .int (z)), (3, .ref (g 1)), (4, .ref (g 3)), (5, .ref (g 4)), (6, .ref (g 5)), (7, .ref (g 6))] C dL_trades_77 (by decide) rfl ?_
  refine g_iload 0 C rfl dL_trades_79 ?_
  refine g_if_eq 137 C dL_trades_81 (by decide) (fun q => absurd q (by decide)) (fun _ => ?_)
  refine g_aload 11 C rfl dL_trades_84 ?_
  refine g_bipush 7 C dL_trades_86 (by decide) ?_
  refine g_iload 4 C rfl dL_trades_88 ?_
  refine g_imulN 7 q C dL_trades_90 ?_
  refine g_iconst 3 C dL_trades_91 (by decide) ?_
  refine g_iaddN (7 * q) 3 C dL_trades_92 ?_
  refine g_iload 2 C rfl dL_trades_93 ?_
  refine g_iconst 1 C dL_trades_95 (by decide) ?_
  refine g_iaddN hs 1 C dL_trades_96 ?_
  refine g_iastN (cA := cI) (n := 28) (a := g 5) (f := τ.2 5) (x := nI (hs + 1)) ((7 * q) + 3) 18 0 (wB cI h g σ (sA τ 5 (upd (τ.2 5) ((7 * q) + 3) (nI (hs + 1))))) C rfl rfl (by omega) (by decide) rfl dL_trades_97 ?_
  refine g_aload 11 C rfl dL_trades_98 ?_
  refine g_bipush 7 C dL_trades_100 (by decide) ?_
  refine g_iload 4 C rfl dL_trades_102 ?_
  refine g_imulN 7 q C dL_trades_104 ?_
  refine g_iconst 4 C dL_trades_105 (by decide) ?_
  refine g_iaddN (7 * q) 4 C dL_trades_106 ?_
  refine g_iload 1 C rfl dL_trades_107 ?_
  refine g_iastN (cA := cI) (n := 28) (a := g 5) (f := upd (τ.2 5) ((7 * q) + 3) (nI (hs + 1))) (x := nI (1 + d0)) ((7 * q) + 4) 18 0 (wB cI h g σ (sA τ 5 (upd (upd (τ.2 5) ((7 * q) + 3) (nI (hs + 1))) ((7 * q) + 4) (nI (1 + d0))))) C rfl rfl (by omega) (by decide) rfl dL_trades_109 ?_
  refine g_aload 11 C rfl dL_trades_110 ?_
  refine g_bipush 7 C dL_trades_112 (by decide) ?_
  refine g_iload 4 C rfl dL_trades_114 ?_
  refine g_imulN 7 q C dL_trades_116 ?_
  refine g_iconst 5 C dL_trades_117 (by decide) ?_
  refine g_iaddN (7 * q) 5 C dL_trades_118 ?_
  refine g_iconst 1 C dL_trades_119 (by decide) ?_
  refine g_iload 4 C rfl dL_trades_120 ?_
  refine g_aload_n 8 C rfl dL_trades_122 rfl ?_
  refine g_aload 9 C rfl dL_trades_123 ?_
  refine g_aload 10 C rfl dL_trades_125 ?_
  refine g_aload 11 C rfl dL_trades_127 ?_
  refine g_bL (na := 5) (av := [.int (nI (q)), .ref (g 1), .ref (g 3), .ref (g 4), .ref (g 5)]) (c_value l D cI cJ g σ (sA τ 5 (upd (upd (τ.2 5) ((7 * q) + 3) (nI (hs + 1))) ((7 * q) + 4) (nI (1 + d0)))) q (by omega) hV T hT hS) C gL_trades_L_value rfl (by decide +kernel) rfl ⟨Nat.le_of_ble_eq_true rfl, Nat.le_of_ble_eq_true rfl⟩ rfl (Nat.le_of_ble_eq_true rfl) ⟨by decide, by decide⟩ dL_trades_129 ?_
  refine g_bipush 100 C dL_trades_132 (by decide) ?_
  refine g_idiv C (by decide) dL_trades_134 ?_
  refine g_iadd C dL_trades_135 ?_
  refine g_iastN (cA := cI) (n := 28) (a := g 5) (f := upd (upd (τ.2 5) ((7 * q) + 3) (nI (hs + 1))) ((7 * q) + 4) (nI (1 + d0))) (x := (1 + ((valA σ 4 6 4 q) / 100))) ((7 * q) + 5) 18 0 (wB cI h g σ (sA τ 5 (upd (upd (upd (τ.2 5) ((7 * q) + 3) (nI (hs + 1))) ((7 * q) + 4) (nI (1 + d0))) ((7 * q) + 5) ((1 + ((valA σ 4 6 4 q) / 100)))))) C rfl rfl (by omega) (by decide) rfl dL_trades_136 ?_
  refine g_aload_n 5 C rfl dL_trades_137 rfl ?_
  refine g_iconst 4 C dL_trades_138 (by decide) ?_
  refine g_iload 4 C rfl dL_trades_139 ?_
  refine g_iload 2 C rfl dL_trades_141 ?_
  refine g_iload 1 C rfl dL_trades_143 ?_
  refine g_bA (na := 5) (av := [.ref (h 0), .int (4), .int (nI (q)), .int (nI (hs)), .int (nI (1 + d0))]) (k0_lend l D cI cJ hst h σ hI (q) (hs) (nI (1 + d0))  (by omega) (by omega) hK) C gL_trades_L_calls rfl (by decide +kernel) rfl ⟨Nat.le_of_ble_eq_true rfl, Nat.le_of_ble_eq_true rfl⟩ rfl (Nat.le_of_ble_eq_true rfl) ⟨by decide, by decide⟩ dL_trades_145 ?_
  refine g_w (wB cI h g (s_lend σ 4 6 4 q hs (nI (1 + d0))) (sA τ 5 (upd (upd (upd (τ.2 5) ((7 * q) + 3) (nI (hs + 1))) ((7 * q) + 4) (nI (1 + d0))) ((7 * q) + 5) ((1 + ((valA σ 4 6 4 q) / 100)))))) rfl ?_
  refine g_iload 0 C rfl dL_trades_148 ?_
  refine g_if_eq 166 C dL_trades_150 (by decide) (fun q => absurd q (by decide)) (fun _ => ?_)
  refine g_aload 11 C rfl dL_trades_153 ?_
  refine g_bipush 7 C dL_trades_155 (by decide) ?_
  refine g_iload 4 C rfl dL_trades_157 ?_
  refine g_imulN 7 q C dL_trades_159 ?_
  refine g_iconst 5 C dL_trades_160 (by decide) ?_
  refine g_iaddN (7 * q) 5 C dL_trades_161 ?_
  refine g_ialdN (cA := cI) (n := 28) (a := g 5) (f := upd (upd (upd (τ.2 5) ((7 * q) + 3) (nI (hs + 1))) ((7 * q) + 4) (nI (1 + d0))) ((7 * q) + 5) ((1 + ((valA σ 4 6 4 q) / 100)))) ((7 * q) + 5) 18 0 C rfl rfl (by omega) (by decide) dL_trades_162 ?_
  refine g_is ((1 + ((valA σ 4 6 4 q) / 100))) pk_us ?_
  refine g_goto 169 C dL_trades_163 (by decide) ?_
  refine g_icmp_ne 176 C dL_trades_169 (by decide) (fun q => absurd (Int32.add_comm _ _) q) (fun _ => ?_)
  refine g_iconst 1 C dL_trades_172 (by decide) ?_
  refine g_goto 177 C dL_trades_173 (by decide) ?_
  exact g_iret C hr rfl dL_trades_177 (by decide) (by decide) rfl rfl rfl
set_option maxRecDepth 100000 in
set_option maxHeartbeats 4000000 in
theorem y_lendA (l : Launch) (D : va_G) (cI cJ : ClassId) (hst : l.stackTraces = false) (h g : Nat → Nat) (σ τ : gS) (hI : iA σ 4 6 4 4) (z : Int32) (q hs d0 : Nat) (e0 : lowN z 4 = q) (e1 : lowN (z >>> (2 &&& 31)) 4 = hs) (e2 : lowN (z >>> (4 &&& 31)) 9 = d0) (hq : q < 4) (hhs : hs < 4) (hd0 : d0 < 9) (hh : ¬ τ.2 5 (7 * q + 3) = 0) (hK : 3 = th_lend σ 4 (nI q) (nI hs) (nI (1 + d0))) : MC l yL_trades wsL_trades 9 187 D (tyIJ cI cJ) [.ref (h 0), .int (0), .int (z), .ref (g 1), .ref (g 3), .ref (g 4), .ref (g 5), .ref (g 6)] (wB cI h g σ τ) (wB cI h g σ τ) none (some (.int 1)) 1 := by
  refine MC.ofG (cc := cL_trades) (maxL := 13) (ret := (some .boolean)) [(0, .ref (h 0)), (1, .int (0)), (2, .int (z)), (3, .ref (g 1)), (4, .ref (g 3)), (5, .ref (g 4)), (6, .ref (g 5)), (7, .ref (g 6))] (by decide) rfl (Nat.le_of_ble_eq_true rfl) rfl ?_
  intro p e s m args below meth c C hr hout
  refine g_iload_n 2 C rfl dL_trades_0 rfl ?_
  refine g_iconst 4 C dL_trades_1 (by decide) ?_
  refine g_bS (na := 2) (av := [.int (z), .int (4)]) (c_low l D cI cJ _ (z) 4 (q) (by decide) (by decide) (e0)) C gL_trades_L_low rfl (by decide +kernel) rfl ⟨Nat.le_of_ble_eq_true rfl, Nat.le_of_ble_eq_true rfl⟩ rfl (Nat.le_of_ble_eq_true rfl) ⟨by decide, by decide⟩ dL_trades_2 ?_
  refine g_istore [(8, .int (nI (q))), (0, .ref (h 0)), (1, .int (0)), (2, .int (z)), (3, .ref (g 1)), (4, .ref (g 3)), (5, .ref (g 4)), (6, .ref (g 5)), (7, .ref (g 6))] C dL_trades_5 (by decide) rfl ?_
  refine g_aload 7 C rfl dL_trades_7 ?_
  refine g_bipush 7 C dL_trades_9 (by decide) ?_
  refine g_iload 0 C rfl dL_trades_11 ?_
  refine g_imulN 7 q C dL_trades_13 ?_
  refine g_iconst 3 C dL_trades_14 (by decide) ?_
  refine g_iaddN (7 * q) 3 C dL_trades_15 ?_
  refine g_ialdN (cA := cI) (n := 28) (a := g 5) (f := τ.2 5) ((7 * q) + 3) 18 0 C rfl rfl (by omega) (by decide) dL_trades_16 ?_
  refine g_if_ne 24 C dL_trades_17 (by decide) (fun _ => ?_) (fun q => absurd q hh)
  refine g_iconst 0 C dL_trades_24 (by decide) ?_
  refine g_istore [(9, .int (0)), (8, .int (nI (q))), (0, .ref (h 0)), (1, .int (0)), (2, .int (z)), (3, .ref (g 1)), (4, .ref (g 3)), (5, .ref (g 4)), (6, .ref (g 5)), (7, .ref (g 6))] C dL_trades_25 (by decide) rfl ?_
  refine g_iload_n 3 C rfl dL_trades_27 rfl ?_
  refine g_if_ne 178 C dL_trades_28 (by decide) (fun q => absurd q (by decide)) (fun _ => ?_)
  refine g_iload_n 4 C rfl dL_trades_31 rfl ?_
  refine g_iconst 2 C dL_trades_32 (by decide) ?_
  refine g_ishr C dL_trades_33 ?_
  refine g_iconst 4 C dL_trades_34 (by decide) ?_
  refine g_bS (na := 2) (av := [.int (z >>> (2 &&& 31)), .int (4)]) (c_low l D cI cJ _ ((z >>> (2 &&& 31))) 4 (hs) (by decide) (by decide) (e1)) C gL_trades_L_low rfl (by decide +kernel) rfl ⟨Nat.le_of_ble_eq_true rfl, Nat.le_of_ble_eq_true rfl⟩ rfl (Nat.le_of_ble_eq_true rfl) ⟨by decide, by decide⟩ dL_trades_35 ?_
  refine g_istore [(10, .int (nI (hs))), (9, .int (0)), (8, .int (nI (q))), (0, .ref (h 0)), (1, .int (0)), (2, .int (z)), (3, .ref (g 1)), (4, .ref (g 3)), (5, .ref (g 4)), (6, .ref (g 5)), (7, .ref (g 6))] C dL_trades_38 (by decide) rfl ?_
  refine g_iconst 1 C dL_trades_40 (by decide) ?_
  refine g_iload_n 5 C rfl dL_trades_41 rfl ?_
  refine g_iconst 4 C dL_trades_42 (by decide) ?_
  refine g_ishr C dL_trades_43 ?_
  refine g_bipush 9 C dL_trades_44 (by decide) ?_
  refine g_bS (na := 2) (av := [.int (z >>> (4 &&& 31)), .int (9)]) (c_low l D cI cJ _ ((z >>> (4 &&& 31))) 9 (d0) (by decide) (by decide) (e2)) C gL_trades_L_low rfl (by decide +kernel) rfl ⟨Nat.le_of_ble_eq_true rfl, Nat.le_of_ble_eq_true rfl⟩ rfl (Nat.le_of_ble_eq_true rfl) ⟨by decide, by decide⟩ dL_trades_46 ?_
  refine g_iaddN 1 d0 C dL_trades_49 ?_
  refine g_istore [(11, .int (nI (1 + d0))), (10, .int (nI (hs))), (9, .int (0)), (8, .int (nI (q))), (0, .ref (h 0)), (1, .int (0)), (2, .int (z)), (3, .ref (g 1)), (4, .ref (g 3)), (5, .ref (g 4)), (6, .ref (g 5)), (7, .ref (g 6))] C dL_trades_50 (by decide) rfl ?_
  refine g_iload 2 C rfl dL_trades_52 ?_
  refine g_if_eq 76 C dL_trades_54 (by decide) (fun _ => ?_) (fun q => absurd q (by decide))
  refine g_iconst 0 C dL_trades_76 (by decide) ?_
  refine g_istore [(12, .int (0)), (11, .int (nI (1 + d0))), (10, .int (nI (hs))), (9, .int (0)), (8, .int (nI (q))), (0, .ref (h 0)), (1, .int (0)), (2, .int (z)), (3, .ref (g 1)), (4, .ref (g 3)), (5, .ref (g 4)), (6, .ref (g 5)), (7, .ref (g 6))] C dL_trades_77 (by decide) rfl ?_
  refine g_iload 0 C rfl dL_trades_79 ?_
  refine g_if_eq 137 C dL_trades_81 (by decide) (fun _ => ?_) (fun q => absurd q (by decide))
  refine g_aload_n 5 C rfl dL_trades_137 rfl ?_
  refine g_iconst 4 C dL_trades_138 (by decide) ?_
  refine g_iload 4 C rfl dL_trades_139 ?_
  refine g_iload 2 C rfl dL_trades_141 ?_
  refine g_iload 1 C rfl dL_trades_143 ?_
  refine g_bA (na := 5) (av := [.ref (h 0), .int (4), .int (nI (q)), .int (nI (hs)), .int (nI (1 + d0))]) (k3_lend l D cI cJ hst h σ hI (q) (hs) (nI (1 + d0))  (by omega) (by omega) hK) C gL_trades_L_calls rfl (by decide +kernel) rfl ⟨Nat.le_of_ble_eq_true rfl, Nat.le_of_ble_eq_true rfl⟩ rfl (Nat.le_of_ble_eq_true rfl) ⟨by decide, by decide⟩ dL_trades_145 ?_
  refine g_iload 0 C rfl dL_trades_148 ?_
  refine g_if_eq 166 C dL_trades_150 (by decide) (fun _ => ?_) (fun q => absurd q (by decide))
  refine g_sipush (-1003) C dL_trades_166 (by decide) ?_
  refine g_icmp_ne 176 C dL_trades_169 (by decide) (fun q => absurd q (by decide)) (fun _ => ?_)
  refine g_iconst 1 C dL_trades_172 (by decide) ?_
  refine g_goto 177 C dL_trades_173 (by decide) ?_
  exact g_iret C hr rfl dL_trades_177 (by decide) (by decide) rfl rfl rfl
set_option maxRecDepth 100000 in
set_option maxHeartbeats 4000000 in
theorem y_lendC (l : Launch) (D : va_G) (cI cJ : ClassId) (hst : l.stackTraces = false) (h g : Nat → Nat) (σ τ : gS) (hI : iA σ 4 6 4 4) (z : Int32) (q hs d0 : Nat) (e0 : lowN z 4 = q) (e1 : lowN (z >>> (2 &&& 31)) 4 = hs) (e2 : lowN (z >>> (4 &&& 31)) 9 = d0) (hq : q < 4) (hhs : hs < 4) (hd0 : d0 < 9) (hh : τ.2 5 (7 * q + 3) = 0) (hc : ¬ τ.2 5 (7 * q + 1) < 10) (hK : 3 = th_lend σ 4 (nI q) (nI hs) (nI (1 + d0))) : MC l yL_trades wsL_trades 9 187 D (tyIJ cI cJ) [.ref (h 0), .int (0), .int (z), .ref (g 1), .ref (g 3), .ref (g 4), .ref (g 5), .ref (g 6)] (wB cI h g σ τ) (wB cI h g σ τ) none (some (.int 1)) 1 := by
  refine MC.ofG (cc := cL_trades) (maxL := 13) (ret := (some .boolean)) [(0, .ref (h 0)), (1, .int (0)), (2, .int (z)), (3, .ref (g 1)), (4, .ref (g 3)), (5, .ref (g 4)), (6, .ref (g 5)), (7, .ref (g 6))] (by decide) rfl (Nat.le_of_ble_eq_true rfl) rfl ?_
  intro p e s m args below meth c C hr hout
  refine g_iload_n 2 C rfl dL_trades_0 rfl ?_
  refine g_iconst 4 C dL_trades_1 (by decide) ?_
  refine g_bS (na := 2) (av := [.int (z), .int (4)]) (c_low l D cI cJ _ (z) 4 (q) (by decide) (by decide) (e0)) C gL_trades_L_low rfl (by decide +kernel) rfl ⟨Nat.le_of_ble_eq_true rfl, Nat.le_of_ble_eq_true rfl⟩ rfl (Nat.le_of_ble_eq_true rfl) ⟨by decide, by decide⟩ dL_trades_2 ?_
  refine g_istore [(8, .int (nI (q))), (0, .ref (h 0)), (1, .int (0)), (2, .int (z)), (3, .ref (g 1)), (4, .ref (g 3)), (5, .ref (g 4)), (6, .ref (g 5)), (7, .ref (g 6))] C dL_trades_5 (by decide) rfl ?_
  refine g_aload 7 C rfl dL_trades_7 ?_
  refine g_bipush 7 C dL_trades_9 (by decide) ?_
  refine g_iload 0 C rfl dL_trades_11 ?_
  refine g_imulN 7 q C dL_trades_13 ?_
  refine g_iconst 3 C dL_trades_14 (by decide) ?_
  refine g_iaddN (7 * q) 3 C dL_trades_15 ?_
  refine g_ialdN (cA := cI) (n := 28) (a := g 5) (f := τ.2 5) ((7 * q) + 3) 18 0 C rfl rfl (by omega) (by decide) dL_trades_16 ?_
  refine g_if_ne 24 C dL_trades_17 (by decide) (fun q => absurd hh q) (fun _ => ?_)
  refine g_iconst 1 C dL_trades_20 (by decide) ?_
  refine g_goto 25 C dL_trades_21 (by decide) ?_
  refine g_istore [(9, .int (1)), (8, .int (nI (q))), (0, .ref (h 0)), (1, .int (0)), (2, .int (z)), (3, .ref (g 1)), (4, .ref (g 3)), (5, .ref (g 4)), (6, .ref (g 5)), (7, .ref (g 6))] C dL_trades_25 (by decide) rfl ?_
  refine g_iload_n 3 C rfl dL_trades_27 rfl ?_
  refine g_if_ne 178 C dL_trades_28 (by decide) (fun q => absurd q (by decide)) (fun _ => ?_)
  refine g_iload_n 4 C rfl dL_trades_31 rfl ?_
  refine g_iconst 2 C dL_trades_32 (by decide) ?_
  refine g_ishr C dL_trades_33 ?_
  refine g_iconst 4 C dL_trades_34 (by decide) ?_
  refine g_bS (na := 2) (av := [.int (z >>> (2 &&& 31)), .int (4)]) (c_low l D cI cJ _ ((z >>> (2 &&& 31))) 4 (hs) (by decide) (by decide) (e1)) C gL_trades_L_low rfl (by decide +kernel) rfl ⟨Nat.le_of_ble_eq_true rfl, Nat.le_of_ble_eq_true rfl⟩ rfl (Nat.le_of_ble_eq_true rfl) ⟨by decide, by decide⟩ dL_trades_35 ?_
  refine g_istore [(10, .int (nI (hs))), (9, .int (1)), (8, .int (nI (q))), (0, .ref (h 0)), (1, .int (0)), (2, .int (z)), (3, .ref (g 1)), (4, .ref (g 3)), (5, .ref (g 4)), (6, .ref (g 5)), (7, .ref (g 6))] C dL_trades_38 (by decide) rfl ?_
  refine g_iconst 1 C dL_trades_40 (by decide) ?_
  refine g_iload_n 5 C rfl dL_trades_41 rfl ?_
  refine g_iconst 4 C dL_trades_42 (by decide) ?_
  refine g_ishr C dL_trades_43 ?_
  refine g_bipush 9 C dL_trades_44 (by decide) ?_
  refine g_bS (na := 2) (av := [.int (z >>> (4 &&& 31)), .int (9)]) (c_low l D cI cJ _ ((z >>> (4 &&& 31))) 9 (d0) (by decide) (by decide) (e2)) C gL_trades_L_low rfl (by decide +kernel) rfl ⟨Nat.le_of_ble_eq_true rfl, Nat.le_of_ble_eq_true rfl⟩ rfl (Nat.le_of_ble_eq_true rfl) ⟨by decide, by decide⟩ dL_trades_46 ?_
  refine g_iaddN 1 d0 C dL_trades_49 ?_
  refine g_istore [(11, .int (nI (1 + d0))), (10, .int (nI (hs))), (9, .int (1)), (8, .int (nI (q))), (0, .ref (h 0)), (1, .int (0)), (2, .int (z)), (3, .ref (g 1)), (4, .ref (g 3)), (5, .ref (g 4)), (6, .ref (g 5)), (7, .ref (g 6))] C dL_trades_50 (by decide) rfl ?_
  refine g_iload 2 C rfl dL_trades_52 ?_
  refine g_if_eq 76 C dL_trades_54 (by decide) (fun q => absurd q (by decide)) (fun _ => ?_)
  refine g_aload 10 C rfl dL_trades_57 ?_
  refine g_bipush 7 C dL_trades_59 (by decide) ?_
  refine g_iload 3 C rfl dL_trades_61 ?_
  refine g_imulN 7 q C dL_trades_63 ?_
  refine g_iconst 1 C dL_trades_64 (by decide) ?_
  refine g_iaddN (7 * q) 1 C dL_trades_65 ?_
  refine g_ialdN (cA := cI) (n := 28) (a := g 5) (f := τ.2 5) ((7 * q) + 1) 18 0 C rfl rfl (by omega) (by decide) dL_trades_66 ?_
  refine g_bipush 10 C dL_trades_67 (by decide) ?_
  refine g_icmp_ge 76 C dL_trades_69 (by decide) (fun _ => ?_) (fun q => absurd (i32_ge hc) q)
  refine g_iconst 0 C dL_trades_76 (by decide) ?_
  refine g_istore [(12, .int (0)), (11, .int (nI (1 + d0))), (10, .int (nI (hs))), (9, .int (1)), (8, .int (nI (q))), (0, .ref (h 0)), (1, .int (0)), (2, .int (z)), (3, .ref (g 1)), (4, .ref (g 3)), (5, .ref (g 4)), (6, .ref (g 5)), (7, .ref (g 6))] C dL_trades_77 (by decide) rfl ?_
  refine g_iload 0 C rfl dL_trades_79 ?_
  refine g_if_eq 137 C dL_trades_81 (by decide) (fun _ => ?_) (fun q => absurd q (by decide))
  refine g_aload_n 5 C rfl dL_trades_137 rfl ?_
  refine g_iconst 4 C dL_trades_138 (by decide) ?_
  refine g_iload 4 C rfl dL_trades_139 ?_
  refine g_iload 2 C rfl dL_trades_141 ?_
  refine g_iload 1 C rfl dL_trades_143 ?_
  refine g_bA (na := 5) (av := [.ref (h 0), .int (4), .int (nI (q)), .int (nI (hs)), .int (nI (1 + d0))]) (k3_lend l D cI cJ hst h σ hI (q) (hs) (nI (1 + d0))  (by omega) (by omega) hK) C gL_trades_L_calls rfl (by decide +kernel) rfl ⟨Nat.le_of_ble_eq_true rfl, Nat.le_of_ble_eq_true rfl⟩ rfl (Nat.le_of_ble_eq_true rfl) ⟨by decide, by decide⟩ dL_trades_145 ?_
  refine g_iload 0 C rfl dL_trades_148 ?_
  refine g_if_eq 166 C dL_trades_150 (by decide) (fun _ => ?_) (fun q => absurd q (by decide))
  refine g_sipush (-1003) C dL_trades_166 (by decide) ?_
  refine g_icmp_ne 176 C dL_trades_169 (by decide) (fun q => absurd q (by decide)) (fun _ => ?_)
  refine g_iconst 1 C dL_trades_172 (by decide) ?_
  refine g_goto 177 C dL_trades_173 (by decide) ?_
  exact g_iret C hr rfl dL_trades_177 (by decide) (by decide) rfl rfl rfl
set_option maxRecDepth 100000 in
set_option maxHeartbeats 4000000 in
theorem y_sell0 (l : Launch) (D : va_G) (cI cJ : ClassId) (hst : l.stackTraces = false) (h g : Nat → Nat) (σ τ : gS) (hI : iA σ 4 6 4 4) (z : Int32) (q p0 : Nat) (e0 : lowN z 4 = q) (e1 : lowN (z >>> (3 &&& 31)) 9000 = p0) (hq : q < 4) (hp0 : p0 < 9000) (T : Nat) (hT : T ≤ 600) (hS : smlV (s_sell σ q (nI (1 + p0))) T) (hV : relV (s_sell σ q (nI (1 + p0))) (sA τ 5 (upd (τ.2 5) (7 * q + 2) (nI (1 + p0))))) (hh : τ.2 5 (7 * q + 3) = 0) (hc : ¬ τ.2 5 (7 * q) ≤ 0) (hK : 0 = th_sell σ 4 (nI q) (nI (1 + p0))) : MC l yL_trades wsL_trades 9 187 D (tyIJ cI cJ) [.ref (h 0), .int (1), .int (z), .ref (g 1), .ref (g 3), .ref (g 4), .ref (g 5), .ref (g 6)] (wB cI h g σ τ) (wB cI h g (s_sell σ q (nI (1 + p0))) (sA τ 5 (upd (τ.2 5) (7 * q + 2) (nI (1 + p0))))) none (some (.int 1)) 1 := by
  refine MC.ofG (cc := cL_trades) (maxL := 13) (ret := (some .boolean)) [(0, .ref (h 0)), (1, .int (1)), (2, .int (z)), (3, .ref (g 1)), (4, .ref (g 3)), (5, .ref (g 4)), (6, .ref (g 5)), (7, .ref (g 6))] (by decide) rfl (Nat.le_of_ble_eq_true rfl) rfl ?_
  intro p e s m args below meth c C hr hout
  refine g_iload_n 2 C rfl dL_trades_0 rfl ?_
  refine g_iconst 4 C dL_trades_1 (by decide) ?_
  refine g_bS (na := 2) (av := [.int (z), .int (4)]) (c_low l D cI cJ _ (z) 4 (q) (by decide) (by decide) (e0)) C gL_trades_L_low rfl (by decide +kernel) rfl ⟨Nat.le_of_ble_eq_true rfl, Nat.le_of_ble_eq_true rfl⟩ rfl (Nat.le_of_ble_eq_true rfl) ⟨by decide, by decide⟩ dL_trades_2 ?_
  refine g_istore [(8, .int (nI (q))), (0, .ref (h 0)), (1, .int (1)), (2, .int (z)), (3, .ref (g 1)), (4, .ref (g 3)), (5, .ref (g 4)), (6, .ref (g 5)), (7, .ref (g 6))] C dL_trades_5 (by decide) rfl ?_
  refine g_aload 7 C rfl dL_trades_7 ?_
  refine g_bipush 7 C dL_trades_9 (by decide) ?_
  refine g_iload 0 C rfl dL_trades_11 ?_
  refine g_imulN 7 q C dL_trades_13 ?_
  refine g_iconst 3 C dL_trades_14 (by decide) ?_
  refine g_iaddN (7 * q) 3 C dL_trades_15 ?_
  refine g_ialdN (cA := cI) (n := 28) (a := g 5) (f := τ.2 5) ((7 * q) + 3) 18 0 C rfl rfl (by omega) (by decide) dL_trades_16 ?_
  refine g_if_ne 24 C dL_trades_17 (by decide) (fun q => absurd hh q) (fun _ => ?_)
  refine g_iconst 1 C dL_trades_20 (by decide) ?_
  refine g_goto 25 C dL_trades_21 (by decide) ?_
  refine g_istore [(9, .int (1)), (8, .int (nI (q))), (0, .ref (h 0)), (1, .int (1)), (2, .int (z)), (3, .ref (g 1)), (4, .ref (g 3)), (5, .ref (g 4)), (6, .ref (g 5)), (7, .ref (g 6))] C dL_trades_25 (by decide) rfl ?_
  refine g_iload_n 3 C rfl dL_trades_27 rfl ?_
  refine g_if_ne 178 C dL_trades_28 (by decide) (fun _ => ?_) (fun q => absurd q (by decide))
  refine g_iload_n 3 C rfl dL_trades_178 rfl ?_
  refine g_iconst 1 C dL_trades_179 (by decide) ?_
  refine g_icmp_ne 291 C dL_trades_180 (by decide) (fun q => absurd q (by decide)) (fun _ => ?_)
  refine g_iconst 1 C dL_trades_183 (by decide) ?_
  refine g_iload_n 4 C rfl dL_trades_184 rfl ?_
  refine g_iconst 3 C dL_trades_185 (by decide) ?_
  refine g_ishr C dL_trades_186 ?_
  refine g_sipush 9000 C dL_trades_187 (by decide) ?_
  refine g_bS (na := 2) (av := [.int (z >>> (3 &&& 31)), .int (9000)]) (c_low l D cI cJ _ ((z >>> (3 &&& 31))) 9000 (p0) (by decide) (by decide) (e1)) C gL_trades_L_low rfl (by decide +kernel) rfl ⟨Nat.le_of_ble_eq_true rfl, Nat.le_of_ble_eq_true rfl⟩ rfl (Nat.le_of_ble_eq_true rfl) ⟨by decide, by decide⟩ dL_trades_190 ?_
  refine g_iaddN 1 p0 C dL_trades_193 ?_
  refine g_istore [(10, .int (nI (1 + p0))), (9, .int (1)), (8, .int (nI (q))), (0, .ref (h 0)), (1, .int (1)), (2, .int (z)), (3, .ref (g 1)), (4, .ref (g 3)), (5, .ref (g 4)), (6, .ref (g 5)), (7, .ref (g 6))] C dL_trades_194 (by decide) rfl ?_
  refine g_iload 1 C rfl dL_trades_196 ?_
  refine g_if_eq 216 C dL_trades_198 (by decide) (fun q => absurd q (by decide)) (fun _ => ?_)
  refine g_aload 9 C rfl dL_trades_201 ?_
  refine g_bipush 7 C dL_trades_203 (by decide) ?_
  refine g_iload 2 C rfl dL_trades_205 ?_
  refine g_imulN 7 q C dL_trades_207 ?_
  refine g_ialdN (cA := cI) (n := 28) (a := g 5) (f := τ.2 5) (7 * q) 18 0 C rfl rfl (by omega) (by decide) dL_trades_208 ?_
  refine g_if_le 216 C dL_trades_209 (by decide) (fun q => absurd q hc) (fun _ => ?_)
  refine g_iconst 1 C dL_trades_212 (by decide) ?_
  refine g_goto 217 C dL_trades_213 (by decide) ?_
  refine g_istore [(11, .int (1)), (10, .int (nI (1 + p0))), (9, .int (1)), (8, .int (nI (q))), (0, .ref (h 0)), (1, .int (1)), (2, .int (z)), (3, .ref (g 1)), (4, .ref (g 3)), (5, .ref (g 4)), (6, .ref (g 5)), (7, .ref (g 6))] C dL_trades_217 (by decide) rfl ?_
  refine g_aload 10 C rfl dL_trades_219 ?_
  refine g_bipush 7 C dL_trades_221 (by decide) ?_
  refine g_iload 3 C rfl dL_trades_223 ?_
  refine g_imulN 7 q C dL_trades_225 ?_
  refine g_iconst 2 C dL_trades_226 (by decide) ?_
  refine g_iaddN (7 * q) 2 C dL_trades_227 ?_
  refine g_iload 0 C rfl dL_trades_228 ?_
  refine g_if_eq 238 C dL_trades_230 (by decide) (fun q => absurd q (by decide)) (fun _ => ?_)
  refine g_iload 1 C rfl dL_trades_233 ?_
  refine g_goto 248 C dL_trades_235 (by decide) ?_
  refine g_iastN (cA := cI) (n := 28) (a := g 5) (f := τ.2 5) (x := nI (1 + p0)) ((7 * q) + 2) 18 0 (wB cI h g σ (sA τ 5 (upd (τ.2 5) ((7 * q) + 2) (nI (1 + p0))))) C rfl rfl (by omega) (by decide) rfl dL_trades_248 ?_
  refine g_aload_n 4 C rfl dL_trades_249 rfl ?_
  refine g_iconst 5 C dL_trades_250 (by decide) ?_
  refine g_iload 3 C rfl dL_trades_251 ?_
  refine g_iload 1 C rfl dL_trades_253 ?_
  refine g_iconst 0 C dL_trades_255 (by decide) ?_
  refine g_bA (na := 5) (av := [.ref (h 0), .int (5), .int (nI (q)), .int (nI (1 + p0)), .int (0)]) (k0_sell l D cI cJ hst h σ hI (q) (nI (1 + p0)) 0 (by omega) hK) C gL_trades_L_calls rfl (by decide +kernel) rfl ⟨Nat.le_of_ble_eq_true rfl, Nat.le_of_ble_eq_true rfl⟩ rfl (Nat.le_of_ble_eq_true rfl) ⟨by decide, by decide⟩ dL_trades_256 ?_
  refine g_w (wB cI h g (s_sell σ q (nI (1 + p0))) (sA τ 5 (upd (τ.2 5) ((7 * q) + 2) (nI (1 + p0))))) rfl ?_
  refine g_iload 0 C rfl dL_trades_259 ?_
  refine g_if_eq 279 C dL_trades_261 (by decide) (fun q => absurd q (by decide)) (fun _ => ?_)
  refine g_iload 3 C rfl dL_trades_264 ?_
  refine g_aload_n 7 C rfl dL_trades_266 rfl ?_
  refine g_aload 8 C rfl dL_trades_267 ?_
  refine g_aload 9 C rfl dL_trades_269 ?_
  refine g_aload 10 C rfl dL_trades_271 ?_
  refine g_bL (na := 5) (av := [.int (nI (q)), .ref (g 1), .ref (g 3), .ref (g 4), .ref (g 5)]) (c_value l D cI cJ g (s_sell σ q (nI (1 + p0))) (sA τ 5 (upd (τ.2 5) ((7 * q) + 2) (nI (1 + p0)))) q (by omega) hV T hT hS) C gL_trades_L_value rfl (by decide +kernel) rfl ⟨Nat.le_of_ble_eq_true rfl, Nat.le_of_ble_eq_true rfl⟩ rfl (Nat.le_of_ble_eq_true rfl) ⟨by decide, by decide⟩ dL_trades_273 ?_
  refine g_goto 282 C dL_trades_276 (by decide) ?_
  refine g_icmp_ne 289 C dL_trades_282 (by decide) (fun q => absurd rfl q) (fun _ => ?_)
  refine g_iconst 1 C dL_trades_285 (by decide) ?_
  refine g_goto 290 C dL_trades_286 (by decide) ?_
  exact g_iret C hr rfl dL_trades_290 (by decide) (by decide) rfl rfl rfl
set_option maxRecDepth 100000 in
set_option maxHeartbeats 4000000 in
theorem y_sellA (l : Launch) (D : va_G) (cI cJ : ClassId) (hst : l.stackTraces = false) (h g : Nat → Nat) (σ τ : gS) (hI : iA σ 4 6 4 4) (z : Int32) (q p0 : Nat) (e0 : lowN z 4 = q) (e1 : lowN (z >>> (3 &&& 31)) 9000 = p0) (hq : q < 4) (hp0 : p0 < 9000) (hh : ¬ τ.2 5 (7 * q + 3) = 0) (hK : 3 = th_sell σ 4 (nI q) (nI (1 + p0))) : MC l yL_trades wsL_trades 9 187 D (tyIJ cI cJ) [.ref (h 0), .int (1), .int (z), .ref (g 1), .ref (g 3), .ref (g 4), .ref (g 5), .ref (g 6)] (wB cI h g σ τ) (wB cI h g σ (sA τ 5 (upd (τ.2 5) (7 * q + 2) (τ.2 5 (7 * q + 2))))) none (some (.int 1)) 1 := by
  refine MC.ofG (cc := cL_trades) (maxL := 13) (ret := (some .boolean)) [(0, .ref (h 0)), (1, .int (1)), (2, .int (z)), (3, .ref (g 1)), (4, .ref (g 3)), (5, .ref (g 4)), (6, .ref (g 5)), (7, .ref (g 6))] (by decide) rfl (Nat.le_of_ble_eq_true rfl) rfl ?_
  intro p e s m args below meth c C hr hout
  refine g_iload_n 2 C rfl dL_trades_0 rfl ?_
  refine g_iconst 4 C dL_trades_1 (by decide) ?_
  refine g_bS (na := 2) (av := [.int (z), .int (4)]) (c_low l D cI cJ _ (z) 4 (q) (by decide) (by decide) (e0)) C gL_trades_L_low rfl (by decide +kernel) rfl ⟨Nat.le_of_ble_eq_true rfl, Nat.le_of_ble_eq_true rfl⟩ rfl (Nat.le_of_ble_eq_true rfl) ⟨by decide, by decide⟩ dL_trades_2 ?_
  refine g_istore [(8, .int (nI (q))), (0, .ref (h 0)), (1, .int (1)), (2, .int (z)), (3, .ref (g 1)), (4, .ref (g 3)), (5, .ref (g 4)), (6, .ref (g 5)), (7, .ref (g 6))] C dL_trades_5 (by decide) rfl ?_
  refine g_aload 7 C rfl dL_trades_7 ?_
  refine g_bipush 7 C dL_trades_9 (by decide) ?_
  refine g_iload 0 C rfl dL_trades_11 ?_
  refine g_imulN 7 q C dL_trades_13 ?_
  refine g_iconst 3 C dL_trades_14 (by decide) ?_
  refine g_iaddN (7 * q) 3 C dL_trades_15 ?_
  refine g_ialdN (cA := cI) (n := 28) (a := g 5) (f := τ.2 5) ((7 * q) + 3) 18 0 C rfl rfl (by omega) (by decide) dL_trades_16 ?_
  refine g_if_ne 24 C dL_trades_17 (by decide) (fun _ => ?_) (fun q => absurd q hh)
  refine g_iconst 0 C dL_trades_24 (by decide) ?_
  refine g_istore [(9, .int (0)), (8, .int (nI (q))), (0, .ref (h 0)), (1, .int (1)), (2, .int (z)), (3, .ref (g 1)), (4, .ref (g 3)), (5, .ref (g 4)), (6, .ref (g 5)), (7, .ref (g 6))] C dL_trades_25 (by decide) rfl ?_
  refine g_iload_n 3 C rfl dL_trades_27 rfl ?_
  refine g_if_ne 178 C dL_trades_28 (by decide) (fun _ => ?_) (fun q => absurd q (by decide))
  refine g_iload_n 3 C rfl dL_trades_178 rfl ?_
  refine g_iconst 1 C dL_trades_179 (by decide) ?_
  refine g_icmp_ne 291 C dL_trades_180 (by decide) (fun q => absurd q (by decide)) (fun _ => ?_)
  refine g_iconst 1 C dL_trades_183 (by decide) ?_
  refine g_iload_n 4 C rfl dL_trades_184 rfl ?_
  refine g_iconst 3 C dL_trades_185 (by decide) ?_
  refine g_ishr C dL_trades_186 ?_
  refine g_sipush 9000 C dL_trades_187 (by decide) ?_
  refine g_bS (na := 2) (av := [.int (z >>> (3 &&& 31)), .int (9000)]) (c_low l D cI cJ _ ((z >>> (3 &&& 31))) 9000 (p0) (by decide) (by decide) (e1)) C gL_trades_L_low rfl (by decide +kernel) rfl ⟨Nat.le_of_ble_eq_true rfl, Nat.le_of_ble_eq_true rfl⟩ rfl (Nat.le_of_ble_eq_true rfl) ⟨by decide, by decide⟩ dL_trades_190 ?_
  refine g_iaddN 1 p0 C dL_trades_193 ?_
  refine g_istore [(10, .int (nI (1 + p0))), (9, .int (0)), (8, .int (nI (q))), (0, .ref (h 0)), (1, .int (1)), (2, .int (z)), (3, .ref (g 1)), (4, .ref (g 3)), (5, .ref (g 4)), (6, .ref (g 5)), (7, .ref (g 6))] C dL_trades_194 (by decide) rfl ?_
  refine g_iload 1 C rfl dL_trades_196 ?_
  refine g_if_eq 216 C dL_trades_198 (by decide) (fun _ => ?_) (fun q => absurd q (by decide))
  refine g_iconst 0 C dL_trades_216 (by decide) ?_
  refine g_istore [(11, .int (0)), (10, .int (nI (1 + p0))), (9, .int (0)), (8, .int (nI (q))), (0, .ref (h 0)), (1, .int (1)), (2, .int (z)), (3, .ref (g 1)), (4, .ref (g 3)), (5, .ref (g 4)), (6, .ref (g 5)), (7, .ref (g 6))] C dL_trades_217 (by decide) rfl ?_
  refine g_aload 10 C rfl dL_trades_219 ?_
  refine g_bipush 7 C dL_trades_221 (by decide) ?_
  refine g_iload 3 C rfl dL_trades_223 ?_
  refine g_imulN 7 q C dL_trades_225 ?_
  refine g_iconst 2 C dL_trades_226 (by decide) ?_
  refine g_iaddN (7 * q) 2 C dL_trades_227 ?_
  refine g_iload 0 C rfl dL_trades_228 ?_
  refine g_if_eq 238 C dL_trades_230 (by decide) (fun _ => ?_) (fun q => absurd q (by decide))
  refine g_aload 10 C rfl dL_trades_238 ?_
  refine g_bipush 7 C dL_trades_240 (by decide) ?_
  refine g_iload 3 C rfl dL_trades_242 ?_
  refine g_imulN 7 q C dL_trades_244 ?_
  refine g_iconst 2 C dL_trades_245 (by decide) ?_
  refine g_iaddN (7 * q) 2 C dL_trades_246 ?_
  refine g_ialdN (cA := cI) (n := 28) (a := g 5) (f := τ.2 5) ((7 * q) + 2) 18 0 C rfl rfl (by omega) (by decide) dL_trades_247 ?_
  refine g_iastN (cA := cI) (n := 28) (a := g 5) (f := τ.2 5) (x := (τ.2 5 ((7 * q) + 2))) ((7 * q) + 2) 18 0 (wB cI h g σ (sA τ 5 (upd (τ.2 5) ((7 * q) + 2) ((τ.2 5 ((7 * q) + 2)))))) C rfl rfl (by omega) (by decide) rfl dL_trades_248 ?_
  refine g_aload_n 4 C rfl dL_trades_249 rfl ?_
  refine g_iconst 5 C dL_trades_250 (by decide) ?_
  refine g_iload 3 C rfl dL_trades_251 ?_
  refine g_iload 1 C rfl dL_trades_253 ?_
  refine g_iconst 0 C dL_trades_255 (by decide) ?_
  refine g_bA (na := 5) (av := [.ref (h 0), .int (5), .int (nI (q)), .int (nI (1 + p0)), .int (0)]) (k3_sell l D cI cJ hst h σ hI (q) (nI (1 + p0)) 0 (by omega) hK) C gL_trades_L_calls rfl (by decide +kernel) rfl ⟨Nat.le_of_ble_eq_true rfl, Nat.le_of_ble_eq_true rfl⟩ rfl (Nat.le_of_ble_eq_true rfl) ⟨by decide, by decide⟩ dL_trades_256 ?_
  refine g_iload 0 C rfl dL_trades_259 ?_
  refine g_if_eq 279 C dL_trades_261 (by decide) (fun _ => ?_) (fun q => absurd q (by decide))
  refine g_sipush (-1003) C dL_trades_279 (by decide) ?_
  refine g_icmp_ne 289 C dL_trades_282 (by decide) (fun q => absurd q (by decide)) (fun _ => ?_)
  refine g_iconst 1 C dL_trades_285 (by decide) ?_
  refine g_goto 290 C dL_trades_286 (by decide) ?_
  exact g_iret C hr rfl dL_trades_290 (by decide) (by decide) rfl rfl rfl
set_option maxRecDepth 100000 in
set_option maxHeartbeats 4000000 in
theorem y_sellL (l : Launch) (D : va_G) (cI cJ : ClassId) (hst : l.stackTraces = false) (h g : Nat → Nat) (σ τ : gS) (hI : iA σ 4 6 4 4) (z : Int32) (q p0 : Nat) (e0 : lowN z 4 = q) (e1 : lowN (z >>> (3 &&& 31)) 9000 = p0) (hq : q < 4) (hp0 : p0 < 9000) (hh : τ.2 5 (7 * q + 3) = 0) (hc : τ.2 5 (7 * q) ≤ 0) (hK : 3 = th_sell σ 4 (nI q) (nI (1 + p0))) : MC l yL_trades wsL_trades 9 187 D (tyIJ cI cJ) [.ref (h 0), .int (1), .int (z), .ref (g 1), .ref (g 3), .ref (g 4), .ref (g 5), .ref (g 6)] (wB cI h g σ τ) (wB cI h g σ (sA τ 5 (upd (τ.2 5) (7 * q + 2) (τ.2 5 (7 * q + 2))))) none (some (.int 1)) 1 := by
  refine MC.ofG (cc := cL_trades) (maxL := 13) (ret := (some .boolean)) [(0, .ref (h 0)), (1, .int (1)), (2, .int (z)), (3, .ref (g 1)), (4, .ref (g 3)), (5, .ref (g 4)), (6, .ref (g 5)), (7, .ref (g 6))] (by decide) rfl (Nat.le_of_ble_eq_true rfl) rfl ?_
  intro p e s m args below meth c C hr hout
  refine g_iload_n 2 C rfl dL_trades_0 rfl ?_
  refine g_iconst 4 C dL_trades_1 (by decide) ?_
  refine g_bS (na := 2) (av := [.int (z), .int (4)]) (c_low l D cI cJ _ (z) 4 (q) (by decide) (by decide) (e0)) C gL_trades_L_low rfl (by decide +kernel) rfl ⟨Nat.le_of_ble_eq_true rfl, Nat.le_of_ble_eq_true rfl⟩ rfl (Nat.le_of_ble_eq_true rfl) ⟨by decide, by decide⟩ dL_trades_2 ?_
  refine g_istore [(8, .int (nI (q))), (0, .ref (h 0)), (1, .int (1)), (2, .int (z)), (3, .ref (g 1)), (4, .ref (g 3)), (5, .ref (g 4)), (6, .ref (g 5)), (7, .ref (g 6))] C dL_trades_5 (by decide) rfl ?_
  refine g_aload 7 C rfl dL_trades_7 ?_
  refine g_bipush 7 C dL_trades_9 (by decide) ?_
  refine g_iload 0 C rfl dL_trades_11 ?_
  refine g_imulN 7 q C dL_trades_13 ?_
  refine g_iconst 3 C dL_trades_14 (by decide) ?_
  refine g_iaddN (7 * q) 3 C dL_trades_15 ?_
  refine g_ialdN (cA := cI) (n := 28) (a := g 5) (f := τ.2 5) ((7 * q) + 3) 18 0 C rfl rfl (by omega) (by decide) dL_trades_16 ?_
  refine g_if_ne 24 C dL_trades_17 (by decide) (fun q => absurd hh q) (fun _ => ?_)
  refine g_iconst 1 C dL_trades_20 (by decide) ?_
  refine g_goto 25 C dL_trades_21 (by decide) ?_
  refine g_istore [(9, .int (1)), (8, .int (nI (q))), (0, .ref (h 0)), (1, .int (1)), (2, .int (z)), (3, .ref (g 1)), (4, .ref (g 3)), (5, .ref (g 4)), (6, .ref (g 5)), (7, .ref (g 6))] C dL_trades_25 (by decide) rfl ?_
  refine g_iload_n 3 C rfl dL_trades_27 rfl ?_
  refine g_if_ne 178 C dL_trades_28 (by decide) (fun _ => ?_) (fun q => absurd q (by decide))
  refine g_iload_n 3 C rfl dL_trades_178 rfl ?_
  refine g_iconst 1 C dL_trades_179 (by decide) ?_
  refine g_icmp_ne 291 C dL_trades_180 (by decide) (fun q => absurd q (by decide)) (fun _ => ?_)
  refine g_iconst 1 C dL_trades_183 (by decide) ?_
  refine g_iload_n 4 C rfl dL_trades_184 rfl ?_
  refine g_iconst 3 C dL_trades_185 (by decide) ?_
  refine g_ishr C dL_trades_186 ?_
  refine g_sipush 9000 C dL_trades_187 (by decide) ?_
  refine g_bS (na := 2) (av := [.int (z >>> (3 &&& 31)), .int (9000)]) (c_low l D cI cJ _ ((z >>> (3 &&& 31))) 9000 (p0) (by decide) (by decide) (e1)) C gL_trades_L_low rfl (by decide +kernel) rfl ⟨Nat.le_of_ble_eq_true rfl, Nat.le_of_ble_eq_true rfl⟩ rfl (Nat.le_of_ble_eq_true rfl) ⟨by decide, by decide⟩ dL_trades_190 ?_
  refine g_iaddN 1 p0 C dL_trades_193 ?_
  refine g_istore [(10, .int (nI (1 + p0))), (9, .int (1)), (8, .int (nI (q))), (0, .ref (h 0)), (1, .int (1)), (2, .int (z)), (3, .ref (g 1)), (4, .ref (g 3)), (5, .ref (g 4)), (6, .ref (g 5)), (7, .ref (g 6))] C dL_trades_194 (by decide) rfl ?_
  refine g_iload 1 C rfl dL_trades_196 ?_
  refine g_if_eq 216 C dL_trades_198 (by decide) (fun q => absurd q (by decide)) (fun _ => ?_)
  refine g_aload 9 C rfl dL_trades_201 ?_
  refine g_bipush 7 C dL_trades_203 (by decide) ?_
  refine g_iload 2 C rfl dL_trades_205 ?_
  refine g_imulN 7 q C dL_trades_207 ?_
  refine g_ialdN (cA := cI) (n := 28) (a := g 5) (f := τ.2 5) (7 * q) 18 0 C rfl rfl (by omega) (by decide) dL_trades_208 ?_
  refine g_if_le 216 C dL_trades_209 (by decide) (fun _ => ?_) (fun q => absurd hc q)
  refine g_iconst 0 C dL_trades_216 (by decide) ?_
  refine g_istore [(11, .int (0)), (10, .int (nI (1 + p0))), (9, .int (1)), (8, .int (nI (q))), (0, .ref (h 0)), (1, .int (1)), (2, .int (z)), (3, .ref (g 1)), (4, .ref (g 3)), (5, .ref (g 4)), (6, .ref (g 5)), (7, .ref (g 6))] C dL_trades_217 (by decide) rfl ?_
  refine g_aload 10 C rfl dL_trades_219 ?_
  refine g_bipush 7 C dL_trades_221 (by decide) ?_
  refine g_iload 3 C rfl dL_trades_223 ?_
  refine g_imulN 7 q C dL_trades_225 ?_
  refine g_iconst 2 C dL_trades_226 (by decide) ?_
  refine g_iaddN (7 * q) 2 C dL_trades_227 ?_
  refine g_iload 0 C rfl dL_trades_228 ?_
  refine g_if_eq 238 C dL_trades_230 (by decide) (fun _ => ?_) (fun q => absurd q (by decide))
  refine g_aload 10 C rfl dL_trades_238 ?_
  refine g_bipush 7 C dL_trades_240 (by decide) ?_
  refine g_iload 3 C rfl dL_trades_242 ?_
  refine g_imulN 7 q C dL_trades_244 ?_
  refine g_iconst 2 C dL_trades_245 (by decide) ?_
  refine g_iaddN (7 * q) 2 C dL_trades_246 ?_
  refine g_ialdN (cA := cI) (n := 28) (a := g 5) (f := τ.2 5) ((7 * q) + 2) 18 0 C rfl rfl (by omega) (by decide) dL_trades_247 ?_
  refine g_iastN (cA := cI) (n := 28) (a := g 5) (f := τ.2 5) (x := (τ.2 5 ((7 * q) + 2))) ((7 * q) + 2) 18 0 (wB cI h g σ (sA τ 5 (upd (τ.2 5) ((7 * q) + 2) ((τ.2 5 ((7 * q) + 2)))))) C rfl rfl (by omega) (by decide) rfl dL_trades_248 ?_
  refine g_aload_n 4 C rfl dL_trades_249 rfl ?_
  refine g_iconst 5 C dL_trades_250 (by decide) ?_
  refine g_iload 3 C rfl dL_trades_251 ?_
  refine g_iload 1 C rfl dL_trades_253 ?_
  refine g_iconst 0 C dL_trades_255 (by decide) ?_
  refine g_bA (na := 5) (av := [.ref (h 0), .int (5), .int (nI (q)), .int (nI (1 + p0)), .int (0)]) (k3_sell l D cI cJ hst h σ hI (q) (nI (1 + p0)) 0 (by omega) hK) C gL_trades_L_calls rfl (by decide +kernel) rfl ⟨Nat.le_of_ble_eq_true rfl, Nat.le_of_ble_eq_true rfl⟩ rfl (Nat.le_of_ble_eq_true rfl) ⟨by decide, by decide⟩ dL_trades_256 ?_
  refine g_iload 0 C rfl dL_trades_259 ?_
  refine g_if_eq 279 C dL_trades_261 (by decide) (fun _ => ?_) (fun q => absurd q (by decide))
  refine g_sipush (-1003) C dL_trades_279 (by decide) ?_
  refine g_icmp_ne 289 C dL_trades_282 (by decide) (fun q => absurd q (by decide)) (fun _ => ?_)
  refine g_iconst 1 C dL_trades_285 (by decide) ?_
  refine g_goto 290 C dL_trades_286 (by decide) ?_
  exact g_iret C hr rfl dL_trades_290 (by decide) (by decide) rfl rfl rfl
set_option maxRecDepth 100000 in
set_option maxHeartbeats 4000000 in
theorem y_damp (l : Launch) (D : va_G) (cI cJ : ClassId) (hst : l.stackTraces = false) (h g : Nat → Nat) (σ τ : gS) (hI : iA σ 4 6 4 4) (z : Int32) (q d0 : Nat) (e0 : lowN z 4 = q) (e1 : lowN (z >>> (3 &&& 31)) 41 = d0) (hq : q < 4) (hd0 : d0 < 41) (hK : 0 = th_damp (nI q) (nI (30 + d0))) (hres : σ.2 10 q = τ.2 6 q) : MC l yL_trades wsL_trades 9 187 D (tyIJ cI cJ) [.ref (h 0), .int (2), .int (z), .ref (g 1), .ref (g 3), .ref (g 4), .ref (g 5), .ref (g 6)] (wB cI h g σ τ) (wB cI h g (sA σ 10 (upd (σ.2 10) q (nI (30 + d0)))) (sA τ 6 (upd (τ.2 6) q (nI (30 + d0))))) none (some (.int 1)) 0 := by
  refine MC.ofG (cc := cL_trades) (maxL := 13) (ret := (some .boolean)) [(0, .ref (h 0)), (1, .int (2)), (2, .int (z)), (3, .ref (g 1)), (4, .ref (g 3)), (5, .ref (g 4)), (6, .ref (g 5)), (7, .ref (g 6))] (by decide) rfl (Nat.le_of_ble_eq_true rfl) rfl ?_
  intro p e s m args below meth c C hr hout
  refine g_iload_n 2 C rfl dL_trades_0 rfl ?_
  refine g_iconst 4 C dL_trades_1 (by decide) ?_
  refine g_bS (na := 2) (av := [.int (z), .int (4)]) (c_low l D cI cJ _ (z) 4 (q) (by decide) (by decide) (e0)) C gL_trades_L_low rfl (by decide +kernel) rfl ⟨Nat.le_of_ble_eq_true rfl, Nat.le_of_ble_eq_true rfl⟩ rfl (Nat.le_of_ble_eq_true rfl) ⟨Nat.zero_le _, Nat.zero_le _⟩ dL_trades_2 ?_
  refine g_istore [(8, .int (nI (q))), (0, .ref (h 0)), (1, .int (2)), (2, .int (z)), (3, .ref (g 1)), (4, .ref (g 3)), (5, .ref (g 4)), (6, .ref (g 5)), (7, .ref (g 6))] C dL_trades_5 (by decide) rfl ?_
  refine g_aload 7 C rfl dL_trades_7 ?_
  refine g_bipush 7 C dL_trades_9 (by decide) ?_
  refine g_iload 0 C rfl dL_trades_11 ?_
  refine g_imulN 7 q C dL_trades_13 ?_
  refine g_iconst 3 C dL_trades_14 (by decide) ?_
  refine g_iaddN (7 * q) 3 C dL_trades_15 ?_
  refine g_ialdN (cA := cI) (n := 28) (a := g 5) (f := τ.2 5) ((7 * q) + 3) 18 0 C rfl rfl (by omega) (by decide) dL_trades_16 ?_
  refine g_if_ne 24 C dL_trades_17 (by decide) (fun c_17_1 => ?_) (fun c_17_1 => ?_)
  ·
    refine g_iconst 0 C dL_trades_24 (by decide) ?_
    refine g_istore [(9, .int (0)), (8, .int (nI (q))), (0, .ref (h 0)), (1, .int (2)), (2, .int (z)), (3, .ref (g 1)), (4, .ref (g 3)), (5, .ref (g 4)), (6, .ref (g 5)), (7, .ref (g 6))] C dL_trades_25 (by decide) rfl ?_
    refine g_iload_n 3 C rfl dL_trades_27 rfl ?_
    refine g_if_ne 178 C dL_trades_28 (by decide) (fun _ => ?_) (fun q => absurd q (by decide))
    refine g_iload_n 3 C rfl dL_trades_178 rfl ?_
    refine g_iconst 1 C dL_trades_179 (by decide) ?_
    refine g_icmp_ne 291 C dL_trades_180 (by decide) (fun _ => ?_) (fun q => absurd q (by decide))
    refine g_iload_n 4 C rfl dL_trades_291 rfl ?_
    refine g_iconst 4 C dL_trades_292 (by decide) ?_
    refine g_bS (na := 2) (av := [.int (z), .int (4)]) (c_low l D cI cJ _ (z) 4 (q) (by decide) (by decide) (e0)) C gL_trades_L_low rfl (by decide +kernel) rfl ⟨Nat.le_of_ble_eq_true rfl, Nat.le_of_ble_eq_true rfl⟩ rfl (Nat.le_of_ble_eq_true rfl) ⟨Nat.zero_le _, Nat.zero_le _⟩ dL_trades_293 ?_
    refine g_istore [(10, .int (nI (q))), (9, .int (0)), (8, .int (nI (q))), (0, .ref (h 0)), (1, .int (2)), (2, .int (z)), (3, .ref (g 1)), (4, .ref (g 3)), (5, .ref (g 4)), (6, .ref (g 5)), (7, .ref (g 6))] C dL_trades_296 (by decide) rfl ?_
    refine g_aload 10 C rfl dL_trades_298 ?_
    refine g_iload 0 C rfl dL_trades_300 ?_
    refine g_ialdN (cA := cI) (n := 8) (a := g 6) (f := τ.2 6) q 19 0 C rfl rfl (by omega) (by decide) dL_trades_302 ?_
    refine g_istore [(11, .int (τ.2 6 q)), (10, .int (nI (q))), (9, .int (0)), (8, .int (nI (q))), (0, .ref (h 0)), (1, .int (2)), (2, .int (z)), (3, .ref (g 1)), (4, .ref (g 3)), (5, .ref (g 4)), (6, .ref (g 5)), (7, .ref (g 6))] C dL_trades_303 (by decide) rfl ?_
    refine g_aload 11 C rfl dL_trades_305 ?_
    refine g_iload 1 C rfl dL_trades_307 ?_
    refine g_bipush 30 C dL_trades_309 (by decide) ?_
    refine g_iload_n 6 C rfl dL_trades_311 rfl ?_
    refine g_iconst 3 C dL_trades_312 (by decide) ?_
    refine g_ishr C dL_trades_313 ?_
    refine g_bipush 41 C dL_trades_314 (by decide) ?_
    refine g_bS (na := 2) (av := [.int (z >>> (3 &&& 31)), .int (41)]) (c_low l D cI cJ _ ((z >>> (3 &&& 31))) 41 (d0) (by decide) (by decide) (e1)) C gL_trades_L_low rfl (by decide +kernel) rfl ⟨Nat.le_of_ble_eq_true rfl, Nat.le_of_ble_eq_true rfl⟩ rfl (Nat.le_of_ble_eq_true rfl) ⟨Nat.zero_le _, Nat.zero_le _⟩ dL_trades_316 ?_
    refine g_iaddN 30 d0 C dL_trades_319 ?_
    refine g_iastN (cA := cI) (n := 8) (a := g 6) (f := τ.2 6) (x := nI (30 + d0)) q 19 0 (wB cI h g σ (sA τ 6 (upd (τ.2 6) q (nI (30 + d0))))) C rfl rfl (by omega) (by decide) rfl dL_trades_320 ?_
    refine g_aload_n 4 C rfl dL_trades_321 rfl ?_
    refine g_iload 1 C rfl dL_trades_322 ?_
    refine g_aload 11 C rfl dL_trades_324 ?_
    refine g_iload 1 C rfl dL_trades_326 ?_
    refine g_ialdN (cA := cI) (n := 8) (a := g 6) (f := upd (τ.2 6) q (nI (30 + d0))) q 19 0 C rfl rfl (by omega) (by decide) dL_trades_328 ?_
    refine g_is (nI (30 + d0)) pk_us ?_
    refine g_bV (na := 2) (As := [.int (nI (q)), .int (nI (30 + d0))]) (c_damp l D cI cJ hst h σ 4 6 4 4 hI (nI q) (nI (30 + d0)) 0 hK) C gL_trades_X0_damp rfl (by decide +kernel) rfl ⟨Nat.le_of_ble_eq_true rfl, Nat.le_of_ble_eq_true rfl⟩ rfl (Nat.le_of_ble_eq_true rfl) ⟨Nat.zero_le _, Nat.zero_le _⟩ dL_trades_329 ?_
    refine g_w (wB cI h g (sA σ 10 (upd (σ.2 10) (cl (nI q)) (nI (30 + d0)))) (sA τ 6 (upd (τ.2 6) q (nI (30 + d0))))) rfl ?_
    refine g_is ((σ.2 10 q)) (by rw [cl_nI (by omega)]) ?_
    refine g_iload 0 C rfl dL_trades_332 ?_
    refine g_icmp_ne 341 C dL_trades_334 (by decide) (fun q => absurd hres q) (fun _ => ?_)
    refine g_iconst 1 C dL_trades_337 (by decide) ?_
    refine g_goto 342 C dL_trades_338 (by decide) ?_
    exact g_iret C hr rfl dL_trades_342 (Nat.zero_le _) (Nat.zero_le _) rfl rfl (by rw [cl_nI (show q < 2 ^ 31 by omega)])
  ·
    refine g_iconst 1 C dL_trades_20 (by decide) ?_
    refine g_goto 25 C dL_trades_21 (by decide) ?_
    refine g_istore [(9, .int (1)), (8, .int (nI (q))), (0, .ref (h 0)), (1, .int (2)), (2, .int (z)), (3, .ref (g 1)), (4, .ref (g 3)), (5, .ref (g 4)), (6, .ref (g 5)), (7, .ref (g 6))] C dL_trades_25 (by decide) rfl ?_
    refine g_iload_n 3 C rfl dL_trades_27 rfl ?_
    refine g_if_ne 178 C dL_trades_28 (by decide) (fun _ => ?_) (fun q => absurd q (by decide))
    refine g_iload_n 3 C rfl dL_trades_178 rfl ?_
    refine g_iconst 1 C dL_trades_179 (by decide) ?_
    refine g_icmp_ne 291 C dL_trades_180 (by decide) (fun _ => ?_) (fun q => absurd q (by decide))
    refine g_iload_n 4 C rfl dL_trades_291 rfl ?_
    refine g_iconst 4 C dL_trades_292 (by decide) ?_
    refine g_bS (na := 2) (av := [.int (z), .int (4)]) (c_low l D cI cJ _ (z) 4 (q) (by decide) (by decide) (e0)) C gL_trades_L_low rfl (by decide +kernel) rfl ⟨Nat.le_of_ble_eq_true rfl, Nat.le_of_ble_eq_true rfl⟩ rfl (Nat.le_of_ble_eq_true rfl) ⟨Nat.zero_le _, Nat.zero_le _⟩ dL_trades_293 ?_
    refine g_istore [(10, .int (nI (q))), (9, .int (1)), (8, .int (nI (q))), (0, .ref (h 0)), (1, .int (2)), (2, .int (z)), (3, .ref (g 1)), (4, .ref (g 3)), (5, .ref (g 4)), (6, .ref (g 5)), (7, .ref (g 6))] C dL_trades_296 (by decide) rfl ?_
    refine g_aload 10 C rfl dL_trades_298 ?_
    refine g_iload 0 C rfl dL_trades_300 ?_
    refine g_ialdN (cA := cI) (n := 8) (a := g 6) (f := τ.2 6) q 19 0 C rfl rfl (by omega) (by decide) dL_trades_302 ?_
    refine g_istore [(11, .int (τ.2 6 q)), (10, .int (nI (q))), (9, .int (1)), (8, .int (nI (q))), (0, .ref (h 0)), (1, .int (2)), (2, .int (z)), (3, .ref (g 1)), (4, .ref (g 3)), (5, .ref (g 4)), (6, .ref (g 5)), (7, .ref (g 6))] C dL_trades_303 (by decide) rfl ?_
    refine g_aload 11 C rfl dL_trades_305 ?_
    refine g_iload 1 C rfl dL_trades_307 ?_
    refine g_bipush 30 C dL_trades_309 (by decide) ?_
    refine g_iload_n 6 C rfl dL_trades_311 rfl ?_
    refine g_iconst 3 C dL_trades_312 (by decide) ?_
    refine g_ishr C dL_trades_313 ?_
    refine g_bipush 41 C dL_trades_314 (by decide) ?_
    refine g_bS (na := 2) (av := [.int (z >>> (3 &&& 31)), .int (41)]) (c_low l D cI cJ _ ((z >>> (3 &&& 31))) 41 (d0) (by decide) (by decide) (e1)) C gL_trades_L_low rfl (by decide +kernel) rfl ⟨Nat.le_of_ble_eq_true rfl, Nat.le_of_ble_eq_true rfl⟩ rfl (Nat.le_of_ble_eq_true rfl) ⟨Nat.zero_le _, Nat.zero_le _⟩ dL_trades_316 ?_
    refine g_iaddN 30 d0 C dL_trades_319 ?_
    refine g_iastN (cA := cI) (n := 8) (a := g 6) (f := τ.2 6) (x := nI (30 + d0)) q 19 0 (wB cI h g σ (sA τ 6 (upd (τ.2 6) q (nI (30 + d0))))) C rfl rfl (by omega) (by decide) rfl dL_trades_320 ?_
    refine g_aload_n 4 C rfl dL_trades_321 rfl ?_
    refine g_iload 1 C rfl dL_trades_322 ?_
    refine g_aload 11 C rfl dL_trades_324 ?_
    refine g_iload 1 C rfl dL_trades_326 ?_
    refine g_ialdN (cA := cI) (n := 8) (a := g 6) (f := upd (τ.2 6) q (nI (30 + d0))) q 19 0 C rfl rfl (by omega) (by decide) dL_trades_328 ?_
    refine g_is (nI (30 + d0)) pk_us ?_
    refine g_bV (na := 2) (As := [.int (nI (q)), .int (nI (30 + d0))]) (c_damp l D cI cJ hst h σ 4 6 4 4 hI (nI q) (nI (30 + d0)) 0 hK) C gL_trades_X0_damp rfl (by decide +kernel) rfl ⟨Nat.le_of_ble_eq_true rfl, Nat.le_of_ble_eq_true rfl⟩ rfl (Nat.le_of_ble_eq_true rfl) ⟨Nat.zero_le _, Nat.zero_le _⟩ dL_trades_329 ?_
    refine g_w (wB cI h g (sA σ 10 (upd (σ.2 10) (cl (nI q)) (nI (30 + d0)))) (sA τ 6 (upd (τ.2 6) q (nI (30 + d0))))) rfl ?_
    refine g_is ((σ.2 10 q)) (by rw [cl_nI (by omega)]) ?_
    refine g_iload 0 C rfl dL_trades_332 ?_
    refine g_icmp_ne 341 C dL_trades_334 (by decide) (fun q => absurd hres q) (fun _ => ?_)
    refine g_iconst 1 C dL_trades_337 (by decide) ?_
    refine g_goto 342 C dL_trades_338 (by decide) ?_
    exact g_iret C hr rfl dL_trades_342 (Nat.zero_le _) (Nat.zero_le _) rfl rfl (by rw [cl_nI (show q < 2 ^ 31 by omega)])
