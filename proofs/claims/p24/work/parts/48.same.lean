/-! The law's questions. -/
set_option maxRecDepth 100000 in
set_option maxHeartbeats 4000000 in
theorem c_same (l : Launch) (D : va_G) (cI cJ : ClassId) (hst : l.stackTraces = false) (h g : Nat → Nat) (σ τ : gS) (hI : iA σ 4 6 4 4) (T : Nat) (hT : T ≤ 600) (hN : inv24 σ T) (hR : rel24 σ τ) (z : Int32) : MC l yL_same wsL_same 9 163 D (tyIJ cI cJ) [.ref (h 0), .int (z), .ref (g 0), .ref (g 1), .ref (g 2), .ref (g 3), .ref (g 4), .ref (g 5), .ref (g 6)] (wB cI h g σ τ) (wB cI h g σ τ) none (some (.int 1)) 0 := by
  refine MC.ofG (cc := cL_same) (maxL := 17) (ret := (some .boolean)) [(0, .ref (h 0)), (1, .int (z)), (2, .ref (g 0)), (3, .ref (g 1)), (4, .ref (g 2)), (5, .ref (g 3)), (6, .ref (g 4)), (7, .ref (g 5)), (8, .ref (g 6))] (by decide) rfl (Nat.le_of_ble_eq_true rfl) rfl ?_
  intro p e s m args below meth c C hr hout
  refine g_iconst 1 C dL_same_0 (by decide) ?_
  refine g_istore [(9, .int (1)), (0, .ref (h 0)), (1, .int (z)), (2, .ref (g 0)), (3, .ref (g 1)), (4, .ref (g 2)), (5, .ref (g 3)), (6, .ref (g 4)), (7, .ref (g 5)), (8, .ref (g 6))] C dL_same_1 (by decide) rfl ?_
  refine g_iconst 0 C dL_same_3 (by decide) ?_
  refine g_istore [(10, .int (0)), (9, .int (1)), (0, .ref (h 0)), (1, .int (z)), (2, .ref (g 0)), (3, .ref (g 1)), (4, .ref (g 2)), (5, .ref (g 3)), (6, .ref (g 4)), (7, .ref (g 5)), (8, .ref (g 6))] C dL_same_4 (by decide) rfl ?_
  have loop_6 : ∀ (fu : Nat) (k : Nat), k ≤ 4 → 5 ≤ k + fu → G p l e ({ frames := 9, cells := 0, slots := 6 * 0, locals := 163 } : Room) s m args below meth c D (va_A (wB cI h g σ τ) s.heap.size) 17 0 0 (gQ below D (wB cI h g σ τ) (wB cI h g σ τ) none (some (.int 1)) 0 args s) (wB cI h g σ τ) [(0, .ref (h 0)), (1, .int (z)), (2, .ref (g 0)), (3, .ref (g 1)), (4, .ref (g 2)), (5, .ref (g 3)), (6, .ref (g 4)), (7, .ref (g 5)), (8, .ref (g 6)), (9, .int (1)), (10, .int (nI (k)))] 6 [] := by
    intro fu
    induction fu with
    | zero => intro k hk hf; exact absurd True.intro (by omega)
    | succ fu ih_6 =>
      intro k hk hf
      refine g_iload 10 C rfl dL_same_6 ?_
      refine g_iconst 4 C dL_same_8 (by decide) ?_
      refine g_icmp_ge 438 C dL_same_9 (by decide) (fun c_9_1 => ?_) (fun c_9_1 => ?_)
      ·
        have d_9_1 : 4 ≤ k := (nI_leI (a := 4) (b := k) (by omega) (by omega)).mp c_9_1
        refine g_iconst 0 C dL_same_438 (by decide) ?_
        refine g_istore [(10, .int (0)), (0, .ref (h 0)), (1, .int (z)), (2, .ref (g 0)), (3, .ref (g 1)), (4, .ref (g 2)), (5, .ref (g 3)), (6, .ref (g 4)), (7, .ref (g 5)), (8, .ref (g 6)), (9, .int (1))] C dL_same_439 (by decide) rfl ?_
        have loop_441 : ∀ (fu : Nat) (u : Nat), u ≤ 6 → 7 ≤ u + fu → G p l e ({ frames := 9, cells := 0, slots := 6 * 0, locals := 163 } : Room) s m args below meth c D (va_A (wB cI h g σ τ) s.heap.size) 17 0 0 (gQ below D (wB cI h g σ τ) (wB cI h g σ τ) none (some (.int 1)) 0 args s) (wB cI h g σ τ) [(0, .ref (h 0)), (1, .int (z)), (2, .ref (g 0)), (3, .ref (g 1)), (4, .ref (g 2)), (5, .ref (g 3)), (6, .ref (g 4)), (7, .ref (g 5)), (8, .ref (g 6)), (9, .int (1)), (10, .int (nI (u)))] 441 [] := by
          intro fu
          induction fu with
          | zero => intro u hu hfu; exact absurd True.intro (by omega)
          | succ fu ih_441 =>
            intro u hu hfu
            refine g_iload 10 C rfl dL_same_441 ?_
            refine g_bipush 6 C dL_same_443 (by decide) ?_
            refine g_icmp_ge 612 C dL_same_445 (by decide) (fun c_445_2 => ?_) (fun c_445_2 => ?_)
            ·
              have d_445_2 : 6 ≤ u := (nI_leI (a := 6) (b := u) (by omega) (by omega)).mp c_445_2
              refine g_iload_n 1 C rfl dL_same_612 rfl ?_
              refine g_iconst 2 C dL_same_613 (by decide) ?_
              refine g_ishr C dL_same_614 ?_
              refine g_sipush 256 C dL_same_615 (by decide) ?_
              obtain ⟨r1, hr1, er1⟩ : ∃ a, a < 256 ∧ lowN ((z >>> (2 &&& 31))) 256 = a := ⟨_, lowN_lt _ (by decide), rfl⟩
              refine g_bS (na := 2) (av := [.int (z >>> (2 &&& 31)), .int (256)]) (c_low l D cI cJ _ ((z >>> (2 &&& 31))) 256 r1 (by decide) (by decide) er1) C gL_same_L_low rfl (by decide +kernel) rfl ⟨Nat.le_of_ble_eq_true rfl, Nat.le_of_ble_eq_true rfl⟩ rfl (Nat.le_of_ble_eq_true rfl) ⟨Nat.zero_le _, Nat.zero_le _⟩ dL_same_618 ?_
              refine g_istore [(10, .int (nI (r1))), (0, .ref (h 0)), (1, .int (z)), (2, .ref (g 0)), (3, .ref (g 1)), (4, .ref (g 2)), (5, .ref (g 3)), (6, .ref (g 4)), (7, .ref (g 5)), (8, .ref (g 6)), (9, .int (1))] C dL_same_621 (by decide) rfl ?_
              refine g_iload_n 2 C rfl dL_same_623 rfl ?_
              refine g_bipush 6 C dL_same_624 (by decide) ?_
              refine g_ishr C dL_same_626 ?_
              refine g_sipush 256 C dL_same_627 (by decide) ?_
              obtain ⟨r2, hr2, er2⟩ : ∃ a, a < 256 ∧ lowN ((z >>> (6 &&& 31))) 256 = a := ⟨_, lowN_lt _ (by decide), rfl⟩
              refine g_bS (na := 2) (av := [.int (z >>> (6 &&& 31)), .int (256)]) (c_low l D cI cJ _ ((z >>> (6 &&& 31))) 256 r2 (by decide) (by decide) er2) C gL_same_L_low rfl (by decide +kernel) rfl ⟨Nat.le_of_ble_eq_true rfl, Nat.le_of_ble_eq_true rfl⟩ rfl (Nat.le_of_ble_eq_true rfl) ⟨Nat.zero_le _, Nat.zero_le _⟩ dL_same_630 ?_
              refine g_istore [(11, .int (nI (r2))), (10, .int (nI (r1))), (0, .ref (h 0)), (1, .int (z)), (2, .ref (g 0)), (3, .ref (g 1)), (4, .ref (g 2)), (5, .ref (g 3)), (6, .ref (g 4)), (7, .ref (g 5)), (8, .ref (g 6)), (9, .int (1))] C dL_same_633 (by decide) rfl ?_
              refine g_iload_n 3 C rfl dL_same_635 rfl ?_
              refine g_bipush 9 C dL_same_636 (by decide) ?_
              refine g_ishr C dL_same_638 ?_
              refine g_sipush 256 C dL_same_639 (by decide) ?_
              obtain ⟨r3, hr3, er3⟩ : ∃ a, a < 256 ∧ lowN ((z >>> (9 &&& 31))) 256 = a := ⟨_, lowN_lt _ (by decide), rfl⟩
              refine g_bS (na := 2) (av := [.int (z >>> (9 &&& 31)), .int (256)]) (c_low l D cI cJ _ ((z >>> (9 &&& 31))) 256 r3 (by decide) (by decide) er3) C gL_same_L_low rfl (by decide +kernel) rfl ⟨Nat.le_of_ble_eq_true rfl, Nat.le_of_ble_eq_true rfl⟩ rfl (Nat.le_of_ble_eq_true rfl) ⟨Nat.zero_le _, Nat.zero_le _⟩ dL_same_642 ?_
              refine g_istore [(12, .int (nI (r3))), (11, .int (nI (r2))), (10, .int (nI (r1))), (0, .ref (h 0)), (1, .int (z)), (2, .ref (g 0)), (3, .ref (g 1)), (4, .ref (g 2)), (5, .ref (g 3)), (6, .ref (g 4)), (7, .ref (g 5)), (8, .ref (g 6)), (9, .int (1))] C dL_same_645 (by decide) rfl ?_
              refine g_iload 12 C rfl dL_same_647 ?_
              refine g_if_eq 680 C dL_same_649 (by decide) (fun q => absurd q (by decide)) (fun _ => ?_)
              refine g_aload_n 3 C rfl dL_same_652 rfl ?_
              refine g_iload 2 C rfl dL_same_653 ?_
              refine g_iload 1 C rfl dL_same_655 ?_
              refine g_iload 0 C rfl dL_same_657 ?_
              refine g_bV (na := 3) (As := [.int (nI (r1)), .int (nI (r2)), .int (nI (r3))]) (c_recipe l D cI cJ hst h σ 4 6 4 4 hI (nI (r1)) (nI (r2)) (nI (r3)) 0 (th_rec0 (by omega) (by omega) (by omega))) C gL_same_X0_recipe rfl (by decide +kernel) rfl ⟨Nat.le_of_ble_eq_true rfl, Nat.le_of_ble_eq_true rfl⟩ rfl (Nat.le_of_ble_eq_true rfl) ⟨Nat.zero_le _, Nat.zero_le _⟩ dL_same_659 ?_
              refine g_iload 2 C rfl dL_same_662 ?_
              refine g_iload 1 C rfl dL_same_664 ?_
              refine g_iload 0 C rfl dL_same_666 ?_
              refine g_aload_n 5 C rfl dL_same_668 rfl ?_
              refine g_aload_n 6 C rfl dL_same_669 rfl ?_
              refine g_bL (na := 5) (av := [.int (nI (r1)), .int (nI (r2)), .int (nI (r3)), .ref (g 0), .ref (g 1)]) (c_lrecipe l D cI cJ g σ τ (nI (r1)) (nI (r2)) (nI (r3)) hR.2.2.2.2.2.2.2.2.2 hR.1.1 hR.2.1 (inv_pig hN) (inv_gr hN)) C gL_same_L_recipe rfl (by decide +kernel) rfl ⟨Nat.le_of_ble_eq_true rfl, Nat.le_of_ble_eq_true rfl⟩ rfl (Nat.le_of_ble_eq_true rfl) ⟨Nat.zero_le _, Nat.zero_le _⟩ dL_same_670 ?_
              refine g_icmp_ne 680 C dL_same_673 (by decide) (fun q => absurd rfl q) (fun _ => ?_)
              refine g_iconst 1 C dL_same_676 (by decide) ?_
              refine g_goto 681 C dL_same_677 (by decide) ?_
              exact g_iret C hr rfl dL_same_681 (Nat.zero_le _) (Nat.zero_le _) rfl rfl rfl
            ·
              have d_445_2 : ¬ 6 ≤ u := fun zz => c_445_2 ((nI_leI (a := 6) (b := u) (by omega) (by omega)).mpr zz)
              refine g_iload 9 C rfl dL_same_448 ?_
              refine g_if_eq 612 C dL_same_450 (by decide) (fun q => absurd q (by decide)) (fun _ => ?_)
              refine g_aload 4 C rfl dL_same_453 ?_
              refine g_iload 10 C rfl dL_same_455 ?_
              refine g_ialdN (cA := cI) (n := 24) (a := g 2) (f := τ.2 2) u 15 0 C rfl rfl (by omega) (by decide) dL_same_457 ?_
              refine g_is ((σ.2 3 (0 * 12 + u))) (by rw [← hR.2.2.2.1 0 u (by decide) (by omega), Nat.mul_zero, Nat.zero_add]) ?_
              refine g_aload 4 C rfl dL_same_458 ?_
              refine g_bipush 6 C dL_same_460 (by decide) ?_
              refine g_iload 10 C rfl dL_same_462 ?_
              refine g_iaddN 6 u C dL_same_464 ?_
              refine g_ialdN (cA := cI) (n := 24) (a := g 2) (f := τ.2 2) (6 + u) 15 0 C rfl rfl (by omega) (by decide) dL_same_465 ?_
              refine g_is ((σ.2 3 (1 * 12 + u))) (by rw [← hR.2.2.2.1 1 u (by decide) (by omega)]) ?_
              refine g_iadd C dL_same_466 ?_
              refine g_aload 4 C rfl dL_same_467 ?_
              refine g_bipush 12 C dL_same_469 (by decide) ?_
              refine g_iload 10 C rfl dL_same_471 ?_
              refine g_iaddN 12 u C dL_same_473 ?_
              refine g_ialdN (cA := cI) (n := 24) (a := g 2) (f := τ.2 2) (12 + u) 15 0 C rfl rfl (by omega) (by decide) dL_same_474 ?_
              refine g_is ((σ.2 3 (2 * 12 + u))) (by rw [← hR.2.2.2.1 2 u (by decide) (by omega)]) ?_
              refine g_iadd C dL_same_475 ?_
              refine g_aload 4 C rfl dL_same_476 ?_
              refine g_bipush 18 C dL_same_478 (by decide) ?_
              refine g_iload 10 C rfl dL_same_480 ?_
              refine g_iaddN 18 u C dL_same_482 ?_
              refine g_ialdN (cA := cI) (n := 24) (a := g 2) (f := τ.2 2) (18 + u) 15 0 C rfl rfl (by omega) (by decide) dL_same_483 ?_
              refine g_is ((σ.2 3 (3 * 12 + u))) (by rw [← hR.2.2.2.1 3 u (by decide) (by omega)]) ?_
              refine g_iadd C dL_same_484 ?_
              refine g_istore [(11, .int ((((σ.2 3 (0 * 12 + u)) + (σ.2 3 (1 * 12 + u))) + (σ.2 3 (2 * 12 + u))) + (σ.2 3 (3 * 12 + u)))), (0, .ref (h 0)), (1, .int (z)), (2, .ref (g 0)), (3, .ref (g 1)), (4, .ref (g 2)), (5, .ref (g 3)), (6, .ref (g 4)), (7, .ref (g 5)), (8, .ref (g 6)), (9, .int (1)), (10, .int (nI (u)))] C dL_same_485 (by decide) rfl ?_
              refine g_iconst 0 C dL_same_487 (by decide) ?_
              refine g_istore [(12, .int (0)), (11, .int ((((σ.2 3 (0 * 12 + u)) + (σ.2 3 (1 * 12 + u))) + (σ.2 3 (2 * 12 + u))) + (σ.2 3 (3 * 12 + u)))), (0, .ref (h 0)), (1, .int (z)), (2, .ref (g 0)), (3, .ref (g 1)), (4, .ref (g 2)), (5, .ref (g 3)), (6, .ref (g 4)), (7, .ref (g 5)), (8, .ref (g 6)), (9, .int (1)), (10, .int (nI (u)))] C dL_same_488 (by decide) rfl ?_
              refine g_iconst 0 C dL_same_490 (by decide) ?_
              refine g_istore [(13, .int (0)), (12, .int (0)), (11, .int ((((σ.2 3 (0 * 12 + u)) + (σ.2 3 (1 * 12 + u))) + (σ.2 3 (2 * 12 + u))) + (σ.2 3 (3 * 12 + u)))), (0, .ref (h 0)), (1, .int (z)), (2, .ref (g 0)), (3, .ref (g 1)), (4, .ref (g 2)), (5, .ref (g 3)), (6, .ref (g 4)), (7, .ref (g 5)), (8, .ref (g 6)), (9, .int (1)), (10, .int (nI (u)))] C dL_same_491 (by decide) rfl ?_
              have loop_493 : ∀ (fu : Nat) (v : Nat), v ≤ 12 → 13 ≤ v + fu → G p l e ({ frames := 9, cells := 0, slots := 6 * 0, locals := 163 } : Room) s m args below meth c D (va_A (wB cI h g σ τ) s.heap.size) 17 0 0 (gQ below D (wB cI h g σ τ) (wB cI h g σ τ) none (some (.int 1)) 0 args s) (wB cI h g σ τ) [(0, .ref (h 0)), (1, .int (z)), (2, .ref (g 0)), (3, .ref (g 1)), (4, .ref (g 2)), (5, .ref (g 3)), (6, .ref (g 4)), (7, .ref (g 5)), (8, .ref (g 6)), (9, .int (1)), (10, .int (nI (u))), (11, .int (σ.2 3 (0 * 12 + u) + σ.2 3 (1 * 12 + u) + σ.2 3 (2 * 12 + u) + σ.2 3 (3 * 12 + u))), (12, .int (isum (fun k => grL τ k u) v)), (13, .int (nI (v)))] 493 [] := by
                intro fu
                induction fu with
                | zero => intro v hv hfv; exact absurd True.intro (by omega)
                | succ fu ih_493 =>
                  intro v hv hfv
                  refine g_iload 13 C rfl dL_same_493 ?_
                  refine g_bipush 12 C dL_same_495 (by decide) ?_
                  refine g_icmp_ge 522 C dL_same_497 (by decide) (fun c_497_3 => ?_) (fun c_497_3 => ?_)
                  ·
                    have d_497_3 : 12 ≤ v := (nI_leI (a := 12) (b := v) (by omega) (by omega)).mp c_497_3
                    obtain rfl : v = 12 := by omega
                    refine g_aload_n 0 C rfl dL_same_522 rfl ?_
                    refine g_iload 10 C rfl dL_same_523 ?_
                    refine g_bV (na := 1) (As := [.int (nI (u))]) (c_left l D cI cJ hst h σ 4 6 4 4 hI (nI (u)) 0 (th_left0 (by omega))) C gL_same_X0_left rfl (by decide +kernel) rfl ⟨Nat.le_of_ble_eq_true rfl, Nat.le_of_ble_eq_true rfl⟩ rfl (Nat.le_of_ble_eq_true rfl) ⟨Nat.zero_le _, Nat.zero_le _⟩ dL_same_525 ?_
                    refine g_is ((σ.2 2 u)) (by rw [cl_nI (by omega)]) ?_
                    refine g_aload_n 3 C rfl dL_same_528 rfl ?_
                    refine g_iconst 3 C dL_same_529 (by decide) ?_
                    refine g_iload 10 C rfl dL_same_530 ?_
                    refine g_imulN 3 u C dL_same_532 ?_
                    refine g_iconst 1 C dL_same_533 (by decide) ?_
                    refine g_iaddN (3 * u) 1 C dL_same_534 ?_
                    refine g_ialdN (cA := cI) (n := 18) (a := g 1) (f := τ.2 1) ((3 * u) + 1) 14 0 C rfl rfl (by omega) (by decide) dL_same_535 ?_
                    refine g_is ((σ.2 2 u)) (hR.2.1 u (by omega)) ?_
                    refine g_icmp_ne 603 C dL_same_536 (by decide) (fun q => absurd rfl q) (fun _ => ?_)
                    refine g_aload_n 0 C rfl dL_same_539 rfl ?_
                    refine g_iload 10 C rfl dL_same_540 ?_
                    refine g_iconst 0 C dL_same_542 (by decide) ?_
                    refine g_bV (na := 2) (As := [.int (nI (u)), .int (0)]) (c_where l D cI cJ hst h σ 4 6 4 4 hI (nI (u)) 0 0 (th_wh0 (v := 0) (by omega) (by omega))) C gL_same_X0_where rfl (by decide +kernel) rfl ⟨Nat.le_of_ble_eq_true rfl, Nat.le_of_ble_eq_true rfl⟩ rfl (Nat.le_of_ble_eq_true rfl) ⟨Nat.zero_le _, Nat.zero_le _⟩ dL_same_543 ?_
                    refine g_is ((σ.2 2 u)) (wh_0 (by omega)) ?_
                    refine g_aload_n 3 C rfl dL_same_546 rfl ?_
                    refine g_iconst 3 C dL_same_547 (by decide) ?_
                    refine g_iload 10 C rfl dL_same_548 ?_
                    refine g_imulN 3 u C dL_same_550 ?_
                    refine g_iconst 1 C dL_same_551 (by decide) ?_
                    refine g_iaddN (3 * u) 1 C dL_same_552 ?_
                    refine g_ialdN (cA := cI) (n := 18) (a := g 1) (f := τ.2 1) ((3 * u) + 1) 14 0 C rfl rfl (by omega) (by decide) dL_same_553 ?_
                    refine g_is ((σ.2 2 u)) (hR.2.1 u (by omega)) ?_
                    refine g_icmp_ne 603 C dL_same_554 (by decide) (fun q => absurd rfl q) (fun _ => ?_)
                    refine g_aload_n 0 C rfl dL_same_557 rfl ?_
                    refine g_iload 10 C rfl dL_same_558 ?_
                    refine g_iconst 1 C dL_same_560 (by decide) ?_
                    refine g_bV (na := 2) (As := [.int (nI (u)), .int (1)]) (c_where l D cI cJ hst h σ 4 6 4 4 hI (nI (u)) 1 0 (th_wh0 (v := 1) (by omega) (by omega))) C gL_same_X0_where rfl (by decide +kernel) rfl ⟨Nat.le_of_ble_eq_true rfl, Nat.le_of_ble_eq_true rfl⟩ rfl (Nat.le_of_ble_eq_true rfl) ⟨Nat.zero_le _, Nat.zero_le _⟩ dL_same_561 ?_
                    refine g_is ((σ.2 3 (0 * 12 + u) + σ.2 3 (1 * 12 + u) + σ.2 3 (2 * 12 + u) + σ.2 3 (3 * 12 + u))) (wh_1 hN (by omega)) ?_
                    refine g_iload 11 C rfl dL_same_564 ?_
                    refine g_icmp_ne 603 C dL_same_566 (by decide) (fun q => absurd rfl q) (fun _ => ?_)
                    refine g_aload_n 0 C rfl dL_same_569 rfl ?_
                    refine g_iload 10 C rfl dL_same_570 ?_
                    refine g_iconst 2 C dL_same_572 (by decide) ?_
                    refine g_bV (na := 2) (As := [.int (nI (u)), .int (2)]) (c_where l D cI cJ hst h σ 4 6 4 4 hI (nI (u)) 2 0 (th_wh0 (v := 2) (by omega) (by omega))) C gL_same_X0_where rfl (by decide +kernel) rfl ⟨Nat.le_of_ble_eq_true rfl, Nat.le_of_ble_eq_true rfl⟩ rfl (Nat.le_of_ble_eq_true rfl) ⟨Nat.zero_le _, Nat.zero_le _⟩ dL_same_573 ?_
                    refine g_is ((isum (fun k => grL τ k u) 12)) (wh_2 hN hR (by omega)) ?_
                    refine g_iload 12 C rfl dL_same_576 ?_
                    refine g_icmp_ne 603 C dL_same_578 (by decide) (fun q => absurd rfl q) (fun _ => ?_)
                    refine g_aload_n 0 C rfl dL_same_581 rfl ?_
                    refine g_iload 10 C rfl dL_same_582 ?_
                    refine g_iconst 3 C dL_same_584 (by decide) ?_
                    refine g_bV (na := 2) (As := [.int (nI (u)), .int (3)]) (c_where l D cI cJ hst h σ 4 6 4 4 hI (nI (u)) 3 0 (th_wh0 (v := 3) (by omega) (by omega))) C gL_same_X0_where rfl (by decide +kernel) rfl ⟨Nat.le_of_ble_eq_true rfl, Nat.le_of_ble_eq_true rfl⟩ rfl (Nat.le_of_ble_eq_true rfl) ⟨Nat.zero_le _, Nat.zero_le _⟩ dL_same_585 ?_
                    refine g_is ((σ.2 3 (106 * 12 + u))) (wh_3 (by omega)) ?_
                    refine g_aload_n 3 C rfl dL_same_588 rfl ?_
                    refine g_iconst 3 C dL_same_589 (by decide) ?_
                    refine g_iload 10 C rfl dL_same_590 ?_
                    refine g_imulN 3 u C dL_same_592 ?_
                    refine g_iconst 2 C dL_same_593 (by decide) ?_
                    refine g_iaddN (3 * u) 2 C dL_same_594 ?_
                    refine g_ialdN (cA := cI) (n := 18) (a := g 1) (f := τ.2 1) ((3 * u) + 2) 14 0 C rfl rfl (by omega) (by decide) dL_same_595 ?_
                    refine g_is ((σ.2 3 (106 * 12 + u))) (hR.2.2.1 u (by omega)) ?_
                    refine g_icmp_ne 603 C dL_same_596 (by decide) (fun q => absurd rfl q) (fun _ => ?_)
                    refine g_iconst 1 C dL_same_599 (by decide) ?_
                    refine g_goto 604 C dL_same_600 (by decide) ?_
                    refine g_istore [(9, .int (1)), (0, .ref (h 0)), (1, .int (z)), (2, .ref (g 0)), (3, .ref (g 1)), (4, .ref (g 2)), (5, .ref (g 3)), (6, .ref (g 4)), (7, .ref (g 5)), (8, .ref (g 6)), (10, .int (nI (u))), (11, .int (σ.2 3 (0 * 12 + u) + σ.2 3 (1 * 12 + u) + σ.2 3 (2 * 12 + u) + σ.2 3 (3 * 12 + u))), (12, .int (isum (fun k => grL τ k u) 12)), (13, .int (nI (12)))] C dL_same_604 (by decide) rfl ?_
                    refine g_iincN 10 u 1 [(10, .int (nI (u + 1))), (9, .int (1)), (0, .ref (h 0)), (1, .int (z)), (2, .ref (g 0)), (3, .ref (g 1)), (4, .ref (g 2)), (5, .ref (g 3)), (6, .ref (g 4)), (7, .ref (g 5)), (8, .ref (g 6)), (11, .int (σ.2 3 (0 * 12 + u) + σ.2 3 (1 * 12 + u) + σ.2 3 (2 * 12 + u) + σ.2 3 (3 * 12 + u))), (12, .int (isum (fun k => grL τ k u) 12)), (13, .int (nI (12)))] C dL_same_606 rfl (by decide) (by decide) rfl ?_
                    refine g_goto 441 C dL_same_609 (by decide) ?_
                    refine g_lv [2, 3, 4, 5, 6, 7, 8, 9, 10, 1, 0] [(0, .ref (h 0)), (1, .int (z)), (2, .ref (g 0)), (3, .ref (g 1)), (4, .ref (g 2)), (5, .ref (g 3)), (6, .ref (g 4)), (7, .ref (g 5)), (8, .ref (g 6)), (9, .int (1)), (10, .int (nI (u + 1)))] rfl ?_
                    exact ih_441 (u + 1) (by omega) (by omega)
                  ·
                    have d_497_3 : ¬ 12 ≤ v := fun zz => c_497_3 ((nI_leI (a := 12) (b := v) (by omega) (by omega)).mpr zz)
                    refine g_iload 12 C rfl dL_same_500 ?_
                    refine g_iload 13 C rfl dL_same_502 ?_
                    refine g_iload 10 C rfl dL_same_504 ?_
                    refine g_aload 5 C rfl dL_same_506 ?_
                    refine g_aload 6 C rfl dL_same_508 ?_
                    refine g_bL (na := 4) (av := [.int (nI (v)), .int (nI (u)), .ref (g 3), .ref (g 4)]) (c_grams l D cI cJ g τ v u (by omega) (by omega)) C gL_same_L_grams rfl (by decide +kernel) rfl ⟨Nat.le_of_ble_eq_true rfl, Nat.le_of_ble_eq_true rfl⟩ rfl (Nat.le_of_ble_eq_true rfl) ⟨Nat.zero_le _, Nat.zero_le _⟩ dL_same_510 ?_
                    refine g_iadd C dL_same_513 ?_
                    refine g_is ((isum (fun k => grL τ k u) (v + 1))) rfl ?_
                    refine g_istore [(12, .int (isum (fun k => grL τ k u) (v + 1))), (0, .ref (h 0)), (1, .int (z)), (2, .ref (g 0)), (3, .ref (g 1)), (4, .ref (g 2)), (5, .ref (g 3)), (6, .ref (g 4)), (7, .ref (g 5)), (8, .ref (g 6)), (9, .int (1)), (10, .int (nI (u))), (11, .int (σ.2 3 (0 * 12 + u) + σ.2 3 (1 * 12 + u) + σ.2 3 (2 * 12 + u) + σ.2 3 (3 * 12 + u))), (13, .int (nI (v)))] C dL_same_514 (by decide) rfl ?_
                    refine g_iincN 13 v 1 [(13, .int (nI (v + 1))), (12, .int (isum (fun k => grL τ k u) (v + 1))), (0, .ref (h 0)), (1, .int (z)), (2, .ref (g 0)), (3, .ref (g 1)), (4, .ref (g 2)), (5, .ref (g 3)), (6, .ref (g 4)), (7, .ref (g 5)), (8, .ref (g 6)), (9, .int (1)), (10, .int (nI (u))), (11, .int (σ.2 3 (0 * 12 + u) + σ.2 3 (1 * 12 + u) + σ.2 3 (2 * 12 + u) + σ.2 3 (3 * 12 + u)))] C dL_same_516 rfl (by decide) (by decide) rfl ?_
                    refine g_goto 493 C dL_same_519 (by decide) ?_
                    refine g_lv [2, 3, 4, 5, 6, 7, 8, 9, 10, 11, 12, 13, 1, 0] [(0, .ref (h 0)), (1, .int (z)), (2, .ref (g 0)), (3, .ref (g 1)), (4, .ref (g 2)), (5, .ref (g 3)), (6, .ref (g 4)), (7, .ref (g 5)), (8, .ref (g 6)), (9, .int (1)), (10, .int (nI (u))), (11, .int (σ.2 3 (0 * 12 + u) + σ.2 3 (1 * 12 + u) + σ.2 3 (2 * 12 + u) + σ.2 3 (3 * 12 + u))), (12, .int (isum (fun k => grL τ k u) (v + 1))), (13, .int (nI (v + 1)))] rfl ?_
                    exact ih_493 (v + 1) (by omega) (by omega)
              refine g_lv [3, 4, 5, 6, 7, 8, 9, 10, 11, 12, 13, 2, 1, 0] [(0, .ref (h 0)), (1, .int (z)), (2, .ref (g 0)), (3, .ref (g 1)), (4, .ref (g 2)), (5, .ref (g 3)), (6, .ref (g 4)), (7, .ref (g 5)), (8, .ref (g 6)), (9, .int (1)), (10, .int (nI (u))), (11, .int ((((σ.2 3 (0 * 12 + u)) + (σ.2 3 (1 * 12 + u))) + (σ.2 3 (2 * 12 + u))) + (σ.2 3 (3 * 12 + u)))), (12, .int (0)), (13, .int (0))] rfl ?_
              exact loop_493 13 0 (by omega) (by omega)
        refine g_lv [1, 2, 3, 4, 5, 6, 7, 8, 9, 10, 0] [(0, .ref (h 0)), (1, .int (z)), (2, .ref (g 0)), (3, .ref (g 1)), (4, .ref (g 2)), (5, .ref (g 3)), (6, .ref (g 4)), (7, .ref (g 5)), (8, .ref (g 6)), (9, .int (1)), (10, .int (0))] rfl ?_
        exact loop_441 7 0 (by omega) (by omega)
      ·
        have d_9_1 : ¬ 4 ≤ k := fun zz => c_9_1 ((nI_leI (a := 4) (b := k) (by omega) (by omega)).mpr zz)
        refine g_iload 9 C rfl dL_same_12 ?_
        refine g_if_eq 438 C dL_same_14 (by decide) (fun q => absurd q (by decide)) (fun _ => ?_)
        refine g_iload_n 1 C rfl dL_same_17 rfl ?_
        refine g_iload 10 C rfl dL_same_18 ?_
        refine g_ishr C dL_same_20 ?_
        refine g_iconst 3 C dL_same_21 (by decide) ?_
        obtain ⟨w, hw, ew⟩ : ∃ a, a < 3 ∧ lowN ((z >>> (nI (k) &&& 31))) 3 = a := ⟨_, lowN_lt _ (by decide), rfl⟩
        refine g_bS (na := 2) (av := [.int (z >>> (nI (k) &&& 31)), .int (3)]) (c_low l D cI cJ _ ((z >>> (nI (k) &&& 31))) 3 w (by decide) (by decide) ew) C gL_same_L_low rfl (by decide +kernel) rfl ⟨Nat.le_of_ble_eq_true rfl, Nat.le_of_ble_eq_true rfl⟩ rfl (Nat.le_of_ble_eq_true rfl) ⟨Nat.zero_le _, Nat.zero_le _⟩ dL_same_22 ?_
        refine g_istore [(11, .int (nI (w))), (0, .ref (h 0)), (1, .int (z)), (2, .ref (g 0)), (3, .ref (g 1)), (4, .ref (g 2)), (5, .ref (g 3)), (6, .ref (g 4)), (7, .ref (g 5)), (8, .ref (g 6)), (9, .int (1)), (10, .int (nI (k)))] C dL_same_25 (by decide) rfl ?_
        refine g_iconst 0 C dL_same_27 (by decide) ?_
        refine g_istore [(12, .int (0)), (11, .int (nI (w))), (0, .ref (h 0)), (1, .int (z)), (2, .ref (g 0)), (3, .ref (g 1)), (4, .ref (g 2)), (5, .ref (g 3)), (6, .ref (g 4)), (7, .ref (g 5)), (8, .ref (g 6)), (9, .int (1)), (10, .int (nI (k)))] C dL_same_28 (by decide) rfl ?_
        refine g_iconst 0 C dL_same_30 (by decide) ?_
        refine g_istore [(13, .int (0)), (12, .int (0)), (11, .int (nI (w))), (0, .ref (h 0)), (1, .int (z)), (2, .ref (g 0)), (3, .ref (g 1)), (4, .ref (g 2)), (5, .ref (g 3)), (6, .ref (g 4)), (7, .ref (g 5)), (8, .ref (g 6)), (9, .int (1)), (10, .int (nI (k)))] C dL_same_31 (by decide) rfl ?_
        refine g_iconst 0 C dL_same_33 (by decide) ?_
        refine g_istore [(14, .int (0)), (13, .int (0)), (12, .int (0)), (11, .int (nI (w))), (0, .ref (h 0)), (1, .int (z)), (2, .ref (g 0)), (3, .ref (g 1)), (4, .ref (g 2)), (5, .ref (g 3)), (6, .ref (g 4)), (7, .ref (g 5)), (8, .ref (g 6)), (9, .int (1)), (10, .int (nI (k)))] C dL_same_34 (by decide) rfl ?_
        obtain ⟨jl, hjl, ej⟩ := hN.2.2.1.1 k (by omega)
        refine g_iconst 0 C dL_same_36 (by decide) ?_
        refine g_istore [(15, .int (0)), (14, .int (0)), (13, .int (0)), (12, .int (0)), (11, .int (nI (w))), (0, .ref (h 0)), (1, .int (z)), (2, .ref (g 0)), (3, .ref (g 1)), (4, .ref (g 2)), (5, .ref (g 3)), (6, .ref (g 4)), (7, .ref (g 5)), (8, .ref (g 6)), (9, .int (1)), (10, .int (nI (k)))] C dL_same_37 (by decide) rfl ?_
        have loop_39 : ∀ (fu : Nat) (t : Nat), t ≤ 6 → 7 ≤ t + fu → G p l e ({ frames := 9, cells := 0, slots := 6 * 0, locals := 163 } : Room) s m args below meth c D (va_A (wB cI h g σ τ) s.heap.size) 17 0 0 (gQ below D (wB cI h g σ τ) (wB cI h g σ τ) none (some (.int 1)) 0 args s) (wB cI h g σ τ) [(0, .ref (h 0)), (1, .int (z)), (2, .ref (g 0)), (3, .ref (g 1)), (4, .ref (g 2)), (5, .ref (g 3)), (6, .ref (g 4)), (7, .ref (g 5)), (8, .ref (g 6)), (9, .int (1)), (10, .int (nI (k))), (11, .int (nI (w))), (12, .int (isum (fun t => σ.2 3 (k * 12 + t) * colT σ t w) t)), (13, .int (isum (fun t => topX σ k t * colT σ t w) t)), (14, .int (isum (fun t => topX σ k t) t)), (15, .int (nI (t)))] 39 [] := by
          intro fu
          induction fu with
          | zero => intro t ht hft; exact absurd True.intro (by omega)
          | succ fu ih_39 =>
            intro t ht hft
            refine g_iload 15 C rfl dL_same_39 ?_
            refine g_bipush 6 C dL_same_41 (by decide) ?_
            refine g_icmp_ge 219 C dL_same_43 (by decide) (fun c_43_4 => ?_) (fun c_43_4 => ?_)
            ·
              have d_43_4 : 6 ≤ t := (nI_leI (a := 6) (b := t) (by omega) (by omega)).mp c_43_4
              obtain rfl : t = 6 := by omega
              refine g_iload 9 C rfl dL_same_219 ?_
              refine g_if_eq 429 C dL_same_221 (by decide) (fun q => absurd q (by decide)) (fun _ => ?_)
              refine g_aload_n 0 C rfl dL_same_224 rfl ?_
              refine g_iload 10 C rfl dL_same_225 ?_
              refine g_iconst (-1) C dL_same_227 (by decide) ?_
              refine g_bV (na := 2) (As := [.int (nI (k)), .int ((-1))]) (c_has l D cI cJ hst h σ 4 6 4 4 hI (nI (k)) (-1) 0 (th_has1 (by omega))) C gL_same_X0_has rfl (by decide +kernel) rfl ⟨Nat.le_of_ble_eq_true rfl, Nat.le_of_ble_eq_true rfl⟩ rfl (Nat.le_of_ble_eq_true rfl) ⟨Nat.zero_le _, Nat.zero_le _⟩ dL_same_228 ?_
              refine g_is ((rowS (σ.2 3) k 6)) (has_1 (by omega)) ?_
              refine g_iload 10 C rfl dL_same_231 ?_
              refine g_aload 4 C rfl dL_same_233 ?_
              refine g_bL (na := 2) (av := [.int (nI (k)), .ref (g 2)]) (c_total l D cI cJ g τ k (by omega)) C gL_same_L_total rfl (by decide +kernel) rfl ⟨Nat.le_of_ble_eq_true rfl, Nat.le_of_ble_eq_true rfl⟩ rfl (Nat.le_of_ble_eq_true rfl) ⟨Nat.zero_le _, Nat.zero_le _⟩ dL_same_235 ?_
              refine g_is ((rowS (σ.2 3) k 6)) (pot_row hR (by omega) 6 (Nat.le_refl 6)) ?_
              refine g_icmp_ne 429 C dL_same_238 (by decide) (fun q => absurd rfl q) (fun _ => ?_)
              refine g_aload_n 0 C rfl dL_same_241 rfl ?_
              refine g_iload 10 C rfl dL_same_242 ?_
              refine g_iload 11 C rfl dL_same_244 ?_
              refine g_bV (na := 2) (As := [.int (nI (k)), .int (nI (w))]) (c_colour l D cI cJ hst h σ 4 6 4 4 hI (nI (k)) (nI (w)) 0 (th_col0 (by omega) (by omega))) C gL_same_X0_colour rfl (by decide +kernel) rfl ⟨Nat.le_of_ble_eq_true rfl, Nat.le_of_ble_eq_true rfl⟩ rfl (Nat.le_of_ble_eq_true rfl) ⟨Nat.zero_le _, Nat.zero_le _⟩ dL_same_246 ?_
              refine g_is ((colR σ 6 k w)) (by rw [cl_nI (by omega), cl_nI (by omega)]) ?_
              refine g_iload 12 C rfl dL_same_249 ?_
              refine g_iload 10 C rfl dL_same_251 ?_
              refine g_aload 4 C rfl dL_same_253 ?_
              refine g_bL (na := 2) (av := [.int (nI (k)), .ref (g 2)]) (c_total l D cI cJ g τ k (by omega)) C gL_same_L_total rfl (by decide +kernel) rfl ⟨Nat.le_of_ble_eq_true rfl, Nat.le_of_ble_eq_true rfl⟩ rfl (Nat.le_of_ble_eq_true rfl) ⟨Nat.zero_le _, Nat.zero_le _⟩ dL_same_255 ?_
              refine g_is ((rowS (σ.2 3) k 6)) (pot_row hR (by omega) 6 (Nat.le_refl 6)) ?_
              refine g_bS (na := 2) (av := [.int (isum (fun t => σ.2 3 (k * 12 + t) * colT σ t w) 6), .int (rowS (σ.2 3) k 6)]) (c_shade l D cI cJ _ ((isum (fun t => σ.2 3 (k * 12 + t) * colT σ t w) 6)) ((rowS (σ.2 3) k 6))) C gL_same_L_shade rfl (by decide +kernel) rfl ⟨Nat.le_of_ble_eq_true rfl, Nat.le_of_ble_eq_true rfl⟩ rfl (Nat.le_of_ble_eq_true rfl) ⟨Nat.zero_le _, Nat.zero_le _⟩ dL_same_258 ?_
              refine g_icmp_ne 429 C dL_same_261 (by decide) (fun q => absurd rfl q) (fun _ => ?_)
              refine g_aload_n 0 C rfl dL_same_264 rfl ?_
              refine g_iload 10 C rfl dL_same_265 ?_
              refine g_bipush 6 C dL_same_267 (by decide) ?_
              refine g_iload 11 C rfl dL_same_269 ?_
              refine g_iaddN 6 w C dL_same_271 ?_
              refine g_bV (na := 2) (As := [.int (nI (k)), .int (nI (6 + w))]) (c_of l D cI cJ hst h σ 4 6 4 4 hI (nI (k)) (nI (6 + w)) 0 (th_of0 (by omega) (by omega))) C gL_same_X0_of rfl (by decide +kernel) rfl ⟨Nat.le_of_ble_eq_true rfl, Nat.le_of_ble_eq_true rfl⟩ rfl (Nat.le_of_ble_eq_true rfl) ⟨Nat.zero_le _, Nat.zero_le _⟩ dL_same_272 ?_
              refine g_is ((lko σ 6 k w)) (of_6 (by omega) (by omega)) ?_
              refine g_iload 13 C rfl dL_same_275 ?_
              refine g_iload 14 C rfl dL_same_277 ?_
              refine g_bS (na := 2) (av := [.int (isum (fun t => topX σ k t * colT σ t w) 6), .int (isum (fun t => topX σ k t) 6)]) (c_shade l D cI cJ _ ((isum (fun t => topX σ k t * colT σ t w) 6)) ((isum (fun t => topX σ k t) 6))) C gL_same_L_shade rfl (by decide +kernel) rfl ⟨Nat.le_of_ble_eq_true rfl, Nat.le_of_ble_eq_true rfl⟩ rfl (Nat.le_of_ble_eq_true rfl) ⟨Nat.zero_le _, Nat.zero_le _⟩ dL_same_279 ?_
              refine g_icmp_ne 429 C dL_same_282 (by decide) (fun q => absurd (look_x σ k w) q) (fun _ => ?_)
              refine g_aload_n 0 C rfl dL_same_285 rfl ?_
              refine g_iload 10 C rfl dL_same_286 ?_
              refine g_iconst 0 C dL_same_288 (by decide) ?_
              refine g_bV (na := 2) (As := [.int (nI (k)), .int (0)]) (c_of l D cI cJ hst h σ 4 6 4 4 hI (nI (k)) 0 0 (th_of0 (v := 0) (by omega) (by omega))) C gL_same_X0_of rfl (by decide +kernel) rfl ⟨Nat.le_of_ble_eq_true rfl, Nat.le_of_ble_eq_true rfl⟩ rfl (Nat.le_of_ble_eq_true rfl) ⟨Nat.zero_le _, Nat.zero_le _⟩ dL_same_289 ?_
              refine g_is ((σ.2 4 k)) (of_0 (by omega)) ?_
              refine g_aload 7 C rfl dL_same_292 ?_
              refine g_bipush 7 C dL_same_294 (by decide) ?_
              refine g_iload 10 C rfl dL_same_296 ?_
              refine g_imulN 7 k C dL_same_298 ?_
              refine g_ialdN (cA := cI) (n := 28) (a := g 5) (f := τ.2 5) (7 * k) 18 0 C rfl rfl (by omega) (by decide) dL_same_299 ?_
              refine g_is ((σ.2 4 k)) (hR.1.2.2.1 k (by omega)) ?_
              refine g_icmp_ne 429 C dL_same_300 (by decide) (fun q => absurd rfl q) (fun _ => ?_)
              refine g_aload_n 0 C rfl dL_same_303 rfl ?_
              refine g_iload 10 C rfl dL_same_304 ?_
              refine g_iconst 1 C dL_same_306 (by decide) ?_
              refine g_bV (na := 2) (As := [.int (nI (k)), .int (1)]) (c_of l D cI cJ hst h σ 4 6 4 4 hI (nI (k)) 1 0 (th_of0 (v := 1) (by omega) (by omega))) C gL_same_X0_of rfl (by decide +kernel) rfl ⟨Nat.le_of_ble_eq_true rfl, Nat.le_of_ble_eq_true rfl⟩ rfl (Nat.le_of_ble_eq_true rfl) ⟨Nat.zero_le _, Nat.zero_le _⟩ dL_same_307 ?_
              refine g_is ((σ.2 5 k)) (of_1 (by omega)) ?_
              refine g_aload 7 C rfl dL_same_310 ?_
              refine g_bipush 7 C dL_same_312 (by decide) ?_
              refine g_iload 10 C rfl dL_same_314 ?_
              refine g_imulN 7 k C dL_same_316 ?_
              refine g_iconst 1 C dL_same_317 (by decide) ?_
              refine g_iaddN (7 * k) 1 C dL_same_318 ?_
              refine g_ialdN (cA := cI) (n := 28) (a := g 5) (f := τ.2 5) ((7 * k) + 1) 18 0 C rfl rfl (by omega) (by decide) dL_same_319 ?_
              refine g_is ((σ.2 5 k)) (hR.1.2.2.2.1 k (by omega)) ?_
              refine g_icmp_ne 429 C dL_same_320 (by decide) (fun q => absurd rfl q) (fun _ => ?_)
              refine g_aload_n 0 C rfl dL_same_323 rfl ?_
              refine g_iload 10 C rfl dL_same_324 ?_
              refine g_iconst 2 C dL_same_326 (by decide) ?_
              refine g_bV (na := 2) (As := [.int (nI (k)), .int (2)]) (c_of l D cI cJ hst h σ 4 6 4 4 hI (nI (k)) 2 0 (th_of0 (v := 2) (by omega) (by omega))) C gL_same_X0_of rfl (by decide +kernel) rfl ⟨Nat.le_of_ble_eq_true rfl, Nat.le_of_ble_eq_true rfl⟩ rfl (Nat.le_of_ble_eq_true rfl) ⟨Nat.zero_le _, Nat.zero_le _⟩ dL_same_327 ?_
              refine g_is ((valA σ 4 6 4 k)) (of_2 (by omega)) ?_
              refine g_iload 10 C rfl dL_same_330 ?_
              refine g_aload_n 3 C rfl dL_same_332 rfl ?_
              refine g_aload 5 C rfl dL_same_333 ?_
              refine g_aload 6 C rfl dL_same_335 ?_
              refine g_aload 7 C rfl dL_same_337 ?_
              refine g_bL (na := 5) (av := [.int (nI (k)), .ref (g 1), .ref (g 3), .ref (g 4), .ref (g 5)]) (c_value l D cI cJ g σ τ k (by omega) hR.1 T hT hN.2.2.1) C gL_same_L_value rfl (by decide +kernel) rfl ⟨Nat.le_of_ble_eq_true rfl, Nat.le_of_ble_eq_true rfl⟩ rfl (Nat.le_of_ble_eq_true rfl) ⟨Nat.zero_le _, Nat.zero_le _⟩ dL_same_339 ?_
              refine g_icmp_ne 429 C dL_same_342 (by decide) (fun q => absurd rfl q) (fun _ => ?_)
              refine g_aload_n 0 C rfl dL_same_345 rfl ?_
              refine g_iload 10 C rfl dL_same_346 ?_
              refine g_iconst 3 C dL_same_348 (by decide) ?_
              refine g_bV (na := 2) (As := [.int (nI (k)), .int (3)]) (c_of l D cI cJ hst h σ 4 6 4 4 hI (nI (k)) 3 0 (th_of0 (v := 3) (by omega) (by omega))) C gL_same_X0_of rfl (by decide +kernel) rfl ⟨Nat.le_of_ble_eq_true rfl, Nat.le_of_ble_eq_true rfl⟩ rfl (Nat.le_of_ble_eq_true rfl) ⟨Nat.zero_le _, Nat.zero_le _⟩ dL_same_349 ?_
              refine g_is ((mpo σ 4 6 k)) (of_3 (by omega)) ?_
              refine g_iload 10 C rfl dL_same_352 ?_
              refine g_aload_n 3 C rfl dL_same_354 rfl ?_
              refine g_aload 5 C rfl dL_same_355 ?_
              refine g_aload 6 C rfl dL_same_357 ?_
              refine g_aload 7 C rfl dL_same_359 ?_
              refine g_bL (na := 5) (av := [.int (nI (k)), .ref (g 1), .ref (g 3), .ref (g 4), .ref (g 5)]) (c_main l D cI cJ g σ τ k (by omega) hR.1 (hN.2.2.1.1 k (by omega))) C gL_same_L_main rfl (by decide +kernel) rfl ⟨Nat.le_of_ble_eq_true rfl, Nat.le_of_ble_eq_true rfl⟩ rfl (Nat.le_of_ble_eq_true rfl) ⟨Nat.zero_le _, Nat.zero_le _⟩ dL_same_361 ?_
              refine g_icmp_ne 429 C dL_same_364 (by decide) (fun q => absurd rfl q) (fun _ => ?_)
              refine g_aload_n 0 C rfl dL_same_367 rfl ?_
              refine g_iload 10 C rfl dL_same_368 ?_
              refine g_iconst 4 C dL_same_370 (by decide) ?_
              refine g_bV (na := 2) (As := [.int (nI (k)), .int (4)]) (c_of l D cI cJ hst h σ 4 6 4 4 hI (nI (k)) 4 0 (th_of0 (v := 4) (by omega) (by omega))) C gL_same_X0_of rfl (by decide +kernel) rfl ⟨Nat.le_of_ble_eq_true rfl, Nat.le_of_ble_eq_true rfl⟩ rfl (Nat.le_of_ble_eq_true rfl) ⟨Nat.zero_le _, Nat.zero_le _⟩ dL_same_371 ?_
              refine g_is ((if ¬ σ.2 7 k ≤ 0 then σ.2 8 k else -1)) (of_4 (by omega)) ?_
              refine g_aload 7 C rfl dL_same_374 ?_
              refine g_bipush 7 C dL_same_376 (by decide) ?_
              refine g_iload 10 C rfl dL_same_378 ?_
              refine g_imulN 7 k C dL_same_380 ?_
              refine g_iconst 3 C dL_same_381 (by decide) ?_
              refine g_iaddN (7 * k) 3 C dL_same_382 ?_
              refine g_ialdN (cA := cI) (n := 28) (a := g 5) (f := τ.2 5) ((7 * k) + 3) 18 0 C rfl rfl (by omega) (by decide) dL_same_383 ?_
              refine g_is ((hsL σ k)) (hR.2.2.2.2.1 k (by omega)) ?_
              refine g_iconst 1 C dL_same_384 (by decide) ?_
              refine g_isub C dL_same_385 ?_
              refine g_is ((if ¬ σ.2 7 k ≤ 0 then σ.2 8 k else -1)) (hs_1 hI k) ?_
              refine g_icmp_ne 429 C dL_same_386 (by decide) (fun q => absurd rfl q) (fun _ => ?_)
              refine g_aload_n 0 C rfl dL_same_389 rfl ?_
              refine g_iload 10 C rfl dL_same_390 ?_
              refine g_iconst 5 C dL_same_392 (by decide) ?_
              refine g_bV (na := 2) (As := [.int (nI (k)), .int (5)]) (c_of l D cI cJ hst h σ 4 6 4 4 hI (nI (k)) 5 0 (th_of0 (v := 5) (by omega) (by omega))) C gL_same_X0_of rfl (by decide +kernel) rfl ⟨Nat.le_of_ble_eq_true rfl, Nat.le_of_ble_eq_true rfl⟩ rfl (Nat.le_of_ble_eq_true rfl) ⟨Nat.zero_le _, Nat.zero_le _⟩ dL_same_393 ?_
              refine g_is ((σ.2 7 k)) (of_5 (by omega)) ?_
              refine g_aload 7 C rfl dL_same_396 ?_
              refine g_bipush 7 C dL_same_398 (by decide) ?_
              refine g_iload 10 C rfl dL_same_400 ?_
              refine g_imulN 7 k C dL_same_402 ?_
              refine g_iconst 4 C dL_same_403 (by decide) ?_
              refine g_iaddN (7 * k) 4 C dL_same_404 ?_
              refine g_ialdN (cA := cI) (n := 28) (a := g 5) (f := τ.2 5) ((7 * k) + 4) 18 0 C rfl rfl (by omega) (by decide) dL_same_405 ?_
              refine g_is ((σ.2 7 k)) (hR.2.2.2.2.2.1 k (by omega)) ?_
              refine g_icmp_ne 429 C dL_same_406 (by decide) (fun q => absurd rfl q) (fun _ => ?_)
              refine g_aload_n 0 C rfl dL_same_409 rfl ?_
              refine g_iload 10 C rfl dL_same_410 ?_
              refine g_bV (na := 1) (As := [.int (nI (k))]) (c_paid l D cI cJ hst h σ 4 6 4 4 hI (nI (k)) 0 (th_paid0 (by omega))) C gL_same_X0_paid rfl (by decide +kernel) rfl ⟨Nat.le_of_ble_eq_true rfl, Nat.le_of_ble_eq_true rfl⟩ rfl (Nat.le_of_ble_eq_true rfl) ⟨Nat.zero_le _, Nat.zero_le _⟩ dL_same_412 ?_
              refine g_is ((σ.2 11 k)) (by rw [cl_nI (by omega)]) ?_
              refine g_aload 8 C rfl dL_same_415 ?_
              refine g_iconst 4 C dL_same_417 (by decide) ?_
              refine g_iload 10 C rfl dL_same_418 ?_
              refine g_iaddN 4 k C dL_same_420 ?_
              refine g_ialdN (cA := cI) (n := 8) (a := g 6) (f := τ.2 6) (4 + k) 19 0 C rfl rfl (by omega) (by decide) dL_same_421 ?_
              refine g_is ((σ.2 11 k)) (hR.2.2.2.2.2.2.2.2.1 k (by omega)) ?_
              refine g_icmp_ne 429 C dL_same_422 (by decide) (fun q => absurd rfl q) (fun _ => ?_)
              refine g_iconst 1 C dL_same_425 (by decide) ?_
              refine g_goto 430 C dL_same_426 (by decide) ?_
              refine g_istore [(9, .int (1)), (0, .ref (h 0)), (1, .int (z)), (2, .ref (g 0)), (3, .ref (g 1)), (4, .ref (g 2)), (5, .ref (g 3)), (6, .ref (g 4)), (7, .ref (g 5)), (8, .ref (g 6)), (10, .int (nI (k))), (11, .int (nI (w))), (12, .int (isum (fun t => σ.2 3 (k * 12 + t) * colT σ t w) 6)), (13, .int (isum (fun t => topX σ k t * colT σ t w) 6)), (14, .int (isum (fun t => topX σ k t) 6)), (15, .int (nI (6)))] C dL_same_430 (by decide) rfl ?_
              refine g_iincN 10 k 1 [(10, .int (nI (k + 1))), (9, .int (1)), (0, .ref (h 0)), (1, .int (z)), (2, .ref (g 0)), (3, .ref (g 1)), (4, .ref (g 2)), (5, .ref (g 3)), (6, .ref (g 4)), (7, .ref (g 5)), (8, .ref (g 6)), (11, .int (nI (w))), (12, .int (isum (fun t => σ.2 3 (k * 12 + t) * colT σ t w) 6)), (13, .int (isum (fun t => topX σ k t * colT σ t w) 6)), (14, .int (isum (fun t => topX σ k t) 6)), (15, .int (nI (6)))] C dL_same_432 rfl (by decide) (by decide) rfl ?_
              refine g_goto 6 C dL_same_435 (by decide) ?_
              refine g_lv [2, 3, 4, 5, 6, 7, 8, 9, 10, 1, 0] [(0, .ref (h 0)), (1, .int (z)), (2, .ref (g 0)), (3, .ref (g 1)), (4, .ref (g 2)), (5, .ref (g 3)), (6, .ref (g 4)), (7, .ref (g 5)), (8, .ref (g 6)), (9, .int (1)), (10, .int (nI (k + 1)))] rfl ?_
              exact ih_6 (k + 1) (by omega) (by omega)
            ·
              have d_43_4 : ¬ 6 ≤ t := fun zz => c_43_4 ((nI_leI (a := 6) (b := t) (by omega) (by omega)).mpr zz)
              refine g_aload 7 C rfl dL_same_46 ?_
              refine g_bipush 7 C dL_same_48 (by decide) ?_
              refine g_iload 10 C rfl dL_same_50 ?_
              refine g_imulN 7 k C dL_same_52 ?_
              refine g_ialdN (cA := cI) (n := 28) (a := g 5) (f := τ.2 5) (7 * k) 18 0 C rfl rfl (by omega) (by decide) dL_same_53 ?_
              refine g_is (nI (jl)) ((hR.1.2.2.1 k (by omega)).trans ej) ?_
              refine g_if_ne 61 C dL_same_54 (by decide) (fun c_54_5 => ?_) (fun c_54_5 => ?_)
              ·
                have d_54_5 : ¬ jl = 0 := fun zz => c_54_5 ((nI_eq (a := jl) (b := 0) (by omega) (by omega)).mpr zz)
                refine g_iload 10 C rfl dL_same_61 ?_
                refine g_aload 7 C rfl dL_same_63 ?_
                refine g_bipush 7 C dL_same_65 (by decide) ?_
                refine g_iload 10 C rfl dL_same_67 ?_
                refine g_imulN 7 k C dL_same_69 ?_
                refine g_ialdN (cA := cI) (n := 28) (a := g 5) (f := τ.2 5) (7 * k) 18 0 C rfl rfl (by omega) (by decide) dL_same_70 ?_
                refine g_is (nI (jl)) ((hR.1.2.2.1 k (by omega)).trans ej) ?_
                refine g_iconst 1 C dL_same_71 (by decide) ?_
                refine g_isubN jl 1 C (by omega) dL_same_72 ?_
                refine g_bS (na := 2) (av := [.int (nI (k)), .int (nI (jl - 1))]) (c_at l D cI cJ _ k (jl - 1)) C gL_same_L_at rfl (by decide +kernel) rfl ⟨Nat.le_of_ble_eq_true rfl, Nat.le_of_ble_eq_true rfl⟩ rfl (Nat.le_of_ble_eq_true rfl) ⟨Nat.zero_le _, Nat.zero_le _⟩ dL_same_73 ?_
                refine g_iload 15 C rfl dL_same_76 ?_
                refine g_aload 5 C rfl dL_same_78 ?_
                refine g_aload 6 C rfl dL_same_80 ?_
                refine g_bL (na := 4) (av := [.int (nI (3 * k + (jl - 1))), .int (nI (t)), .ref (g 3), .ref (g 4)]) (c_grams l D cI cJ g τ (3 * k + (jl - 1)) t (by omega) (by omega)) C gL_same_L_grams rfl (by decide +kernel) rfl ⟨Nat.le_of_ble_eq_true rfl, Nat.le_of_ble_eq_true rfl⟩ rfl (Nat.le_of_ble_eq_true rfl) ⟨Nat.zero_le _, Nat.zero_le _⟩ dL_same_82 ?_
                refine g_is ((topX σ k t)) (by rw [topX, if_neg (by rw [ej]; exact c_54_5), hR.1.2.1 k (jl - 1) t (by omega) (by omega) (by omega), topR, ej, cl_nI (by omega)]) ?_
                refine g_istore [(16, .int (topX σ k t)), (0, .ref (h 0)), (1, .int (z)), (2, .ref (g 0)), (3, .ref (g 1)), (4, .ref (g 2)), (5, .ref (g 3)), (6, .ref (g 4)), (7, .ref (g 5)), (8, .ref (g 6)), (9, .int (1)), (10, .int (nI (k))), (11, .int (nI (w))), (12, .int (isum (fun t => σ.2 3 (k * 12 + t) * colT σ t w) t)), (13, .int (isum (fun t => topX σ k t * colT σ t w) t)), (14, .int (isum (fun t => topX σ k t) t)), (15, .int (nI (t)))] C dL_same_85 (by decide) rfl ?_
                refine g_iload 13 C rfl dL_same_87 ?_
                refine g_aload 5 C rfl dL_same_89 ?_
                refine g_bipush 6 C dL_same_91 (by decide) ?_
                refine g_iload 11 C rfl dL_same_93 ?_
                refine g_imulN 6 k C dL_same_95 ?_
                refine g_iload 16 C rfl dL_same_96 ?_
                refine g_iaddN (6 * k) t C dL_same_98 ?_
                refine g_ialdN (cA := cI) (n := 24) (a := g 2) (f := τ.2 2) ((6 * k) + t) 15 0 C rfl rfl (by omega) (by decide) dL_same_99 ?_
                refine g_is ((σ.2 3 (k * 12 + t))) (hR.2.2.2.1 k t (by omega) (by omega)) ?_
                refine g_aload_n 3 C rfl dL_same_100 rfl ?_
                refine g_iconst 3 C dL_same_101 (by decide) ?_
                refine g_aload_n 4 C rfl dL_same_102 rfl ?_
                refine g_iconst 3 C dL_same_103 (by decide) ?_
                refine g_iload 16 C rfl dL_same_104 ?_
                refine g_imulN 3 t C dL_same_106 ?_
                refine g_ialdN (cA := cI) (n := 18) (a := g 1) (f := τ.2 1) (3 * t) 14 0 C rfl rfl (by omega) (by decide) dL_same_107 ?_
                obtain ⟨jt, hjt, ejt⟩ := inv_pig hN t (by omega)
                refine g_is (nI (jt)) ((hR.1.1 t (by omega)).trans ejt) ?_
                refine g_imulN 3 jt C dL_same_108 ?_
                refine g_iload 12 C rfl dL_same_109 ?_
                refine g_iaddN (3 * jt) w C dL_same_111 ?_
                refine g_ialdN (cA := cI) (n := 12) (a := g 0) (f := τ.2 0) ((3 * jt) + w) 13 0 C rfl rfl (by omega) (by decide) dL_same_112 ?_
                refine g_is ((colT σ t w)) (col_eq hR.2.2.2.2.2.2.2.2.2 ejt hjt (by omega)) ?_
                refine g_imul C dL_same_113 ?_
                refine g_iadd C dL_same_114 ?_
                refine g_is ((isum (fun t => σ.2 3 (k * 12 + t) * colT σ t w) (t + 1))) rfl ?_
                refine g_istore [(12, .int (isum (fun t => σ.2 3 (k * 12 + t) * colT σ t w) (t + 1))), (16, .int (topX σ k t)), (0, .ref (h 0)), (1, .int (z)), (2, .ref (g 0)), (3, .ref (g 1)), (4, .ref (g 2)), (5, .ref (g 3)), (6, .ref (g 4)), (7, .ref (g 5)), (8, .ref (g 6)), (9, .int (1)), (10, .int (nI (k))), (11, .int (nI (w))), (13, .int (isum (fun t => topX σ k t * colT σ t w) t)), (14, .int (isum (fun t => topX σ k t) t)), (15, .int (nI (t)))] C dL_same_115 (by decide) rfl ?_
                refine g_iload 14 C rfl dL_same_117 ?_
                refine g_iload 1 C rfl dL_same_119 ?_
                refine g_aload_n 4 C rfl dL_same_121 rfl ?_
                refine g_iconst 3 C dL_same_122 (by decide) ?_
                refine g_aload_n 5 C rfl dL_same_123 rfl ?_
                refine g_iconst 3 C dL_same_124 (by decide) ?_
                refine g_iload 16 C rfl dL_same_125 ?_
                refine g_imulN 3 t C dL_same_127 ?_
                refine g_ialdN (cA := cI) (n := 18) (a := g 1) (f := τ.2 1) (3 * t) 14 0 C rfl rfl (by omega) (by decide) dL_same_128 ?_
                obtain ⟨jt, hjt, ejt⟩ := inv_pig hN t (by omega)
                refine g_is (nI (jt)) ((hR.1.1 t (by omega)).trans ejt) ?_
                refine g_imulN 3 jt C dL_same_129 ?_
                refine g_iload 13 C rfl dL_same_130 ?_
                refine g_iaddN (3 * jt) w C dL_same_132 ?_
                refine g_ialdN (cA := cI) (n := 12) (a := g 0) (f := τ.2 0) ((3 * jt) + w) 13 0 C rfl rfl (by omega) (by decide) dL_same_133 ?_
                refine g_is ((colT σ t w)) (col_eq hR.2.2.2.2.2.2.2.2.2 ejt hjt (by omega)) ?_
                refine g_imul C dL_same_134 ?_
                refine g_iadd C dL_same_135 ?_
                refine g_is ((isum (fun t => topX σ k t * colT σ t w) (t + 1))) rfl ?_
                refine g_istore [(13, .int (isum (fun t => topX σ k t * colT σ t w) (t + 1))), (12, .int (isum (fun t => σ.2 3 (k * 12 + t) * colT σ t w) (t + 1))), (16, .int (topX σ k t)), (0, .ref (h 0)), (1, .int (z)), (2, .ref (g 0)), (3, .ref (g 1)), (4, .ref (g 2)), (5, .ref (g 3)), (6, .ref (g 4)), (7, .ref (g 5)), (8, .ref (g 6)), (9, .int (1)), (10, .int (nI (k))), (11, .int (nI (w))), (14, .int (isum (fun t => topX σ k t) t)), (15, .int (nI (t)))] C dL_same_136 (by decide) rfl ?_
                refine g_iload 15 C rfl dL_same_138 ?_
                refine g_iload 2 C rfl dL_same_140 ?_
                refine g_iadd C dL_same_142 ?_
                refine g_is ((isum (fun t => topX σ k t) (t + 1))) rfl ?_
                refine g_istore [(14, .int (isum (fun t => topX σ k t) (t + 1))), (13, .int (isum (fun t => topX σ k t * colT σ t w) (t + 1))), (12, .int (isum (fun t => σ.2 3 (k * 12 + t) * colT σ t w) (t + 1))), (16, .int (topX σ k t)), (0, .ref (h 0)), (1, .int (z)), (2, .ref (g 0)), (3, .ref (g 1)), (4, .ref (g 2)), (5, .ref (g 3)), (6, .ref (g 4)), (7, .ref (g 5)), (8, .ref (g 6)), (9, .int (1)), (10, .int (nI (k))), (11, .int (nI (w))), (15, .int (nI (t)))] C dL_same_143 (by decide) rfl ?_
                refine g_iload 13 C rfl dL_same_145 ?_
                refine g_if_eq 210 C dL_same_147 (by decide) (fun q => absurd q (by decide)) (fun _ => ?_)
                refine g_aload_n 4 C rfl dL_same_150 rfl ?_
                refine g_iload 14 C rfl dL_same_151 ?_
                refine g_iload 16 C rfl dL_same_153 ?_
                refine g_bV (na := 2) (As := [.int (nI (k)), .int (nI (t))]) (c_has l D cI cJ hst h σ 4 6 4 4 hI (nI (k)) (nI (t)) 0 (th_has0 (by omega) (by omega))) C gL_same_X0_has rfl (by decide +kernel) rfl ⟨Nat.le_of_ble_eq_true rfl, Nat.le_of_ble_eq_true rfl⟩ rfl (Nat.le_of_ble_eq_true rfl) ⟨Nat.zero_le _, Nat.zero_le _⟩ dL_same_155 ?_
                refine g_is ((σ.2 3 (k * 12 + t))) (has_t (by omega) (by omega)) ?_
                refine g_aload 8 C rfl dL_same_158 ?_
                refine g_bipush 6 C dL_same_160 (by decide) ?_
                refine g_iload 14 C rfl dL_same_162 ?_
                refine g_imulN 6 k C dL_same_164 ?_
                refine g_iload 16 C rfl dL_same_165 ?_
                refine g_iaddN (6 * k) t C dL_same_167 ?_
                refine g_ialdN (cA := cI) (n := 24) (a := g 2) (f := τ.2 2) ((6 * k) + t) 15 0 C rfl rfl (by omega) (by decide) dL_same_168 ?_
                refine g_is ((σ.2 3 (k * 12 + t))) (hR.2.2.2.1 k t (by omega) (by omega)) ?_
                refine g_icmp_ne 210 C dL_same_169 (by decide) (fun q => absurd rfl q) (fun _ => ?_)
                refine g_aload 11 C rfl dL_same_172 ?_
                refine g_bipush 7 C dL_same_174 (by decide) ?_
                refine g_iload 14 C rfl dL_same_176 ?_
                refine g_imulN 7 k C dL_same_178 ?_
                refine g_ialdN (cA := cI) (n := 28) (a := g 5) (f := τ.2 5) (7 * k) 18 0 C rfl rfl (by omega) (by decide) dL_same_179 ?_
                refine g_is (nI (jl)) ((hR.1.2.2.1 k (by omega)).trans ej) ?_
                refine g_if_eq 206 C dL_same_180 (by decide) (fun q => absurd q c_54_5) (fun _ => ?_)
                refine g_aload_n 4 C rfl dL_same_183 rfl ?_
                refine g_iload 14 C rfl dL_same_184 ?_
                refine g_aload 11 C rfl dL_same_186 ?_
                refine g_bipush 7 C dL_same_188 (by decide) ?_
                refine g_iload 14 C rfl dL_same_190 ?_
                refine g_imulN 7 k C dL_same_192 ?_
                refine g_ialdN (cA := cI) (n := 28) (a := g 5) (f := τ.2 5) (7 * k) 18 0 C rfl rfl (by omega) (by decide) dL_same_193 ?_
                refine g_is (nI (jl)) ((hR.1.2.2.1 k (by omega)).trans ej) ?_
                refine g_iconst 1 C dL_same_194 (by decide) ?_
                refine g_isubN jl 1 C (by omega) dL_same_195 ?_
                refine g_iload 16 C rfl dL_same_196 ?_
                refine g_bV (na := 3) (As := [.int (nI (k)), .int (nI (jl - 1)), .int (nI (t))]) (c_layer l D cI cJ hst h σ 4 6 4 4 hI (nI (k)) (nI (jl - 1)) (nI (t)) 0 (th_lay0 (by omega) ej (by omega) (by omega) (by omega))) C gL_same_X0_layer rfl (by decide +kernel) rfl ⟨Nat.le_of_ble_eq_true rfl, Nat.le_of_ble_eq_true rfl⟩ rfl (Nat.le_of_ble_eq_true rfl) ⟨Nat.zero_le _, Nat.zero_le _⟩ dL_same_198 ?_
                refine g_is ((topX σ k t)) (by rw [cl_nI (by omega), cl_nI (by omega), cl_nI (by omega), topX, if_neg (by rw [ej]; exact c_54_5), topR, ej, cl_nI (by omega)]) ?_
                refine g_iload 3 C rfl dL_same_201 ?_
                refine g_icmp_ne 210 C dL_same_203 (by decide) (fun q => absurd rfl q) (fun _ => ?_)
                refine g_iconst 1 C dL_same_206 (by decide) ?_
                refine g_goto 211 C dL_same_207 (by decide) ?_
                refine g_istore [(9, .int (1)), (14, .int (isum (fun t => topX σ k t) (t + 1))), (13, .int (isum (fun t => topX σ k t * colT σ t w) (t + 1))), (12, .int (isum (fun t => σ.2 3 (k * 12 + t) * colT σ t w) (t + 1))), (16, .int (topX σ k t)), (0, .ref (h 0)), (1, .int (z)), (2, .ref (g 0)), (3, .ref (g 1)), (4, .ref (g 2)), (5, .ref (g 3)), (6, .ref (g 4)), (7, .ref (g 5)), (8, .ref (g 6)), (10, .int (nI (k))), (11, .int (nI (w))), (15, .int (nI (t)))] C dL_same_211 (by decide) rfl ?_
                refine g_iincN 16 t 1 [(15, .int (nI (t + 1))), (9, .int (1)), (14, .int (isum (fun t => topX σ k t) (t + 1))), (13, .int (isum (fun t => topX σ k t * colT σ t w) (t + 1))), (12, .int (isum (fun t => σ.2 3 (k * 12 + t) * colT σ t w) (t + 1))), (16, .int (topX σ k t)), (0, .ref (h 0)), (1, .int (z)), (2, .ref (g 0)), (3, .ref (g 1)), (4, .ref (g 2)), (5, .ref (g 3)), (6, .ref (g 4)), (7, .ref (g 5)), (8, .ref (g 6)), (10, .int (nI (k))), (11, .int (nI (w)))] C dL_same_213 rfl (by decide) (by decide) rfl ?_
                refine g_goto 39 C dL_same_216 (by decide) ?_
                refine g_lv [6, 7, 8, 9, 10, 11, 12, 13, 14, 1, 15, 16, 4, 3, 2, 0] [(0, .ref (h 0)), (1, .int (z)), (2, .ref (g 0)), (3, .ref (g 1)), (4, .ref (g 2)), (5, .ref (g 3)), (6, .ref (g 4)), (7, .ref (g 5)), (8, .ref (g 6)), (9, .int (1)), (10, .int (nI (k))), (11, .int (nI (w))), (12, .int (isum (fun t => σ.2 3 (k * 12 + t) * colT σ t w) (t + 1))), (13, .int (isum (fun t => topX σ k t * colT σ t w) (t + 1))), (14, .int (isum (fun t => topX σ k t) (t + 1))), (15, .int (nI (t + 1)))] rfl ?_
                exact ih_39 (t + 1) (by omega) (by omega)
              ·
                have d_54_5 : jl = 0 := (nI_eq (a := jl) (b := 0) (by omega) (by omega)).mp c_54_5
                refine g_iconst 0 C dL_same_57 (by decide) ?_
                refine g_goto 85 C dL_same_58 (by decide) ?_
                refine g_is ((topX σ k t)) (by rw [topX, if_pos (ej.trans c_54_5)]) ?_
                refine g_istore [(16, .int (topX σ k t)), (0, .ref (h 0)), (1, .int (z)), (2, .ref (g 0)), (3, .ref (g 1)), (4, .ref (g 2)), (5, .ref (g 3)), (6, .ref (g 4)), (7, .ref (g 5)), (8, .ref (g 6)), (9, .int (1)), (10, .int (nI (k))), (11, .int (nI (w))), (12, .int (isum (fun t => σ.2 3 (k * 12 + t) * colT σ t w) t)), (13, .int (isum (fun t => topX σ k t * colT σ t w) t)), (14, .int (isum (fun t => topX σ k t) t)), (15, .int (nI (t)))] C dL_same_85 (by decide) rfl ?_
                refine g_iload 13 C rfl dL_same_87 ?_
                refine g_aload 5 C rfl dL_same_89 ?_
                refine g_bipush 6 C dL_same_91 (by decide) ?_
                refine g_iload 11 C rfl dL_same_93 ?_
                refine g_imulN 6 k C dL_same_95 ?_
                refine g_iload 16 C rfl dL_same_96 ?_
                refine g_iaddN (6 * k) t C dL_same_98 ?_
                refine g_ialdN (cA := cI) (n := 24) (a := g 2) (f := τ.2 2) ((6 * k) + t) 15 0 C rfl rfl (by omega) (by decide) dL_same_99 ?_
                refine g_is ((σ.2 3 (k * 12 + t))) (hR.2.2.2.1 k t (by omega) (by omega)) ?_
                refine g_aload_n 3 C rfl dL_same_100 rfl ?_
                refine g_iconst 3 C dL_same_101 (by decide) ?_
                refine g_aload_n 4 C rfl dL_same_102 rfl ?_
                refine g_iconst 3 C dL_same_103 (by decide) ?_
                refine g_iload 16 C rfl dL_same_104 ?_
                refine g_imulN 3 t C dL_same_106 ?_
                refine g_ialdN (cA := cI) (n := 18) (a := g 1) (f := τ.2 1) (3 * t) 14 0 C rfl rfl (by omega) (by decide) dL_same_107 ?_
                obtain ⟨jt, hjt, ejt⟩ := inv_pig hN t (by omega)
                refine g_is (nI (jt)) ((hR.1.1 t (by omega)).trans ejt) ?_
                refine g_imulN 3 jt C dL_same_108 ?_
                refine g_iload 12 C rfl dL_same_109 ?_
                refine g_iaddN (3 * jt) w C dL_same_111 ?_
                refine g_ialdN (cA := cI) (n := 12) (a := g 0) (f := τ.2 0) ((3 * jt) + w) 13 0 C rfl rfl (by omega) (by decide) dL_same_112 ?_
                refine g_is ((colT σ t w)) (col_eq hR.2.2.2.2.2.2.2.2.2 ejt hjt (by omega)) ?_
                refine g_imul C dL_same_113 ?_
                refine g_iadd C dL_same_114 ?_
                refine g_is ((isum (fun t => σ.2 3 (k * 12 + t) * colT σ t w) (t + 1))) rfl ?_
                refine g_istore [(12, .int (isum (fun t => σ.2 3 (k * 12 + t) * colT σ t w) (t + 1))), (16, .int (topX σ k t)), (0, .ref (h 0)), (1, .int (z)), (2, .ref (g 0)), (3, .ref (g 1)), (4, .ref (g 2)), (5, .ref (g 3)), (6, .ref (g 4)), (7, .ref (g 5)), (8, .ref (g 6)), (9, .int (1)), (10, .int (nI (k))), (11, .int (nI (w))), (13, .int (isum (fun t => topX σ k t * colT σ t w) t)), (14, .int (isum (fun t => topX σ k t) t)), (15, .int (nI (t)))] C dL_same_115 (by decide) rfl ?_
                refine g_iload 14 C rfl dL_same_117 ?_
                refine g_iload 1 C rfl dL_same_119 ?_
                refine g_aload_n 4 C rfl dL_same_121 rfl ?_
                refine g_iconst 3 C dL_same_122 (by decide) ?_
                refine g_aload_n 5 C rfl dL_same_123 rfl ?_
                refine g_iconst 3 C dL_same_124 (by decide) ?_
                refine g_iload 16 C rfl dL_same_125 ?_
                refine g_imulN 3 t C dL_same_127 ?_
                refine g_ialdN (cA := cI) (n := 18) (a := g 1) (f := τ.2 1) (3 * t) 14 0 C rfl rfl (by omega) (by decide) dL_same_128 ?_
                obtain ⟨jt, hjt, ejt⟩ := inv_pig hN t (by omega)
                refine g_is (nI (jt)) ((hR.1.1 t (by omega)).trans ejt) ?_
                refine g_imulN 3 jt C dL_same_129 ?_
                refine g_iload 13 C rfl dL_same_130 ?_
                refine g_iaddN (3 * jt) w C dL_same_132 ?_
                refine g_ialdN (cA := cI) (n := 12) (a := g 0) (f := τ.2 0) ((3 * jt) + w) 13 0 C rfl rfl (by omega) (by decide) dL_same_133 ?_
                refine g_is ((colT σ t w)) (col_eq hR.2.2.2.2.2.2.2.2.2 ejt hjt (by omega)) ?_
                refine g_imul C dL_same_134 ?_
                refine g_iadd C dL_same_135 ?_
                refine g_is ((isum (fun t => topX σ k t * colT σ t w) (t + 1))) rfl ?_
                refine g_istore [(13, .int (isum (fun t => topX σ k t * colT σ t w) (t + 1))), (12, .int (isum (fun t => σ.2 3 (k * 12 + t) * colT σ t w) (t + 1))), (16, .int (topX σ k t)), (0, .ref (h 0)), (1, .int (z)), (2, .ref (g 0)), (3, .ref (g 1)), (4, .ref (g 2)), (5, .ref (g 3)), (6, .ref (g 4)), (7, .ref (g 5)), (8, .ref (g 6)), (9, .int (1)), (10, .int (nI (k))), (11, .int (nI (w))), (14, .int (isum (fun t => topX σ k t) t)), (15, .int (nI (t)))] C dL_same_136 (by decide) rfl ?_
                refine g_iload 15 C rfl dL_same_138 ?_
                refine g_iload 2 C rfl dL_same_140 ?_
                refine g_iadd C dL_same_142 ?_
                refine g_is ((isum (fun t => topX σ k t) (t + 1))) rfl ?_
                refine g_istore [(14, .int (isum (fun t => topX σ k t) (t + 1))), (13, .int (isum (fun t => topX σ k t * colT σ t w) (t + 1))), (12, .int (isum (fun t => σ.2 3 (k * 12 + t) * colT σ t w) (t + 1))), (16, .int (topX σ k t)), (0, .ref (h 0)), (1, .int (z)), (2, .ref (g 0)), (3, .ref (g 1)), (4, .ref (g 2)), (5, .ref (g 3)), (6, .ref (g 4)), (7, .ref (g 5)), (8, .ref (g 6)), (9, .int (1)), (10, .int (nI (k))), (11, .int (nI (w))), (15, .int (nI (t)))] C dL_same_143 (by decide) rfl ?_
                refine g_iload 13 C rfl dL_same_145 ?_
                refine g_if_eq 210 C dL_same_147 (by decide) (fun q => absurd q (by decide)) (fun _ => ?_)
                refine g_aload_n 4 C rfl dL_same_150 rfl ?_
                refine g_iload 14 C rfl dL_same_151 ?_
                refine g_iload 16 C rfl dL_same_153 ?_
                refine g_bV (na := 2) (As := [.int (nI (k)), .int (nI (t))]) (c_has l D cI cJ hst h σ 4 6 4 4 hI (nI (k)) (nI (t)) 0 (th_has0 (by omega) (by omega))) C gL_same_X0_has rfl (by decide +kernel) rfl ⟨Nat.le_of_ble_eq_true rfl, Nat.le_of_ble_eq_true rfl⟩ rfl (Nat.le_of_ble_eq_true rfl) ⟨Nat.zero_le _, Nat.zero_le _⟩ dL_same_155 ?_
                refine g_is ((σ.2 3 (k * 12 + t))) (has_t (by omega) (by omega)) ?_
                refine g_aload 8 C rfl dL_same_158 ?_
                refine g_bipush 6 C dL_same_160 (by decide) ?_
                refine g_iload 14 C rfl dL_same_162 ?_
                refine g_imulN 6 k C dL_same_164 ?_
                refine g_iload 16 C rfl dL_same_165 ?_
                refine g_iaddN (6 * k) t C dL_same_167 ?_
                refine g_ialdN (cA := cI) (n := 24) (a := g 2) (f := τ.2 2) ((6 * k) + t) 15 0 C rfl rfl (by omega) (by decide) dL_same_168 ?_
                refine g_is ((σ.2 3 (k * 12 + t))) (hR.2.2.2.1 k t (by omega) (by omega)) ?_
                refine g_icmp_ne 210 C dL_same_169 (by decide) (fun q => absurd rfl q) (fun _ => ?_)
                refine g_aload 11 C rfl dL_same_172 ?_
                refine g_bipush 7 C dL_same_174 (by decide) ?_
                refine g_iload 14 C rfl dL_same_176 ?_
                refine g_imulN 7 k C dL_same_178 ?_
                refine g_ialdN (cA := cI) (n := 28) (a := g 5) (f := τ.2 5) (7 * k) 18 0 C rfl rfl (by omega) (by decide) dL_same_179 ?_
                refine g_is (nI (jl)) ((hR.1.2.2.1 k (by omega)).trans ej) ?_
                refine g_if_eq 206 C dL_same_180 (by decide) (fun _ => ?_) (fun q => absurd c_54_5 q)
                refine g_iconst 1 C dL_same_206 (by decide) ?_
                refine g_goto 211 C dL_same_207 (by decide) ?_
                refine g_istore [(9, .int (1)), (14, .int (isum (fun t => topX σ k t) (t + 1))), (13, .int (isum (fun t => topX σ k t * colT σ t w) (t + 1))), (12, .int (isum (fun t => σ.2 3 (k * 12 + t) * colT σ t w) (t + 1))), (16, .int (topX σ k t)), (0, .ref (h 0)), (1, .int (z)), (2, .ref (g 0)), (3, .ref (g 1)), (4, .ref (g 2)), (5, .ref (g 3)), (6, .ref (g 4)), (7, .ref (g 5)), (8, .ref (g 6)), (10, .int (nI (k))), (11, .int (nI (w))), (15, .int (nI (t)))] C dL_same_211 (by decide) rfl ?_
                refine g_iincN 16 t 1 [(15, .int (nI (t + 1))), (9, .int (1)), (14, .int (isum (fun t => topX σ k t) (t + 1))), (13, .int (isum (fun t => topX σ k t * colT σ t w) (t + 1))), (12, .int (isum (fun t => σ.2 3 (k * 12 + t) * colT σ t w) (t + 1))), (16, .int (topX σ k t)), (0, .ref (h 0)), (1, .int (z)), (2, .ref (g 0)), (3, .ref (g 1)), (4, .ref (g 2)), (5, .ref (g 3)), (6, .ref (g 4)), (7, .ref (g 5)), (8, .ref (g 6)), (10, .int (nI (k))), (11, .int (nI (w)))] C dL_same_213 rfl (by decide) (by decide) rfl ?_
                refine g_goto 39 C dL_same_216 (by decide) ?_
                refine g_lv [6, 7, 8, 9, 10, 11, 12, 13, 14, 1, 15, 16, 4, 3, 2, 0] [(0, .ref (h 0)), (1, .int (z)), (2, .ref (g 0)), (3, .ref (g 1)), (4, .ref (g 2)), (5, .ref (g 3)), (6, .ref (g 4)), (7, .ref (g 5)), (8, .ref (g 6)), (9, .int (1)), (10, .int (nI (k))), (11, .int (nI (w))), (12, .int (isum (fun t => σ.2 3 (k * 12 + t) * colT σ t w) (t + 1))), (13, .int (isum (fun t => topX σ k t * colT σ t w) (t + 1))), (14, .int (isum (fun t => topX σ k t) (t + 1))), (15, .int (nI (t + 1)))] rfl ?_
                exact ih_39 (t + 1) (by omega) (by omega)
        refine g_lv [5, 6, 7, 8, 9, 10, 11, 12, 13, 14, 15, 4, 3, 2, 1, 0] [(0, .ref (h 0)), (1, .int (z)), (2, .ref (g 0)), (3, .ref (g 1)), (4, .ref (g 2)), (5, .ref (g 3)), (6, .ref (g 4)), (7, .ref (g 5)), (8, .ref (g 6)), (9, .int (1)), (10, .int (nI (k))), (11, .int (nI (w))), (12, .int (0)), (13, .int (0)), (14, .int (0)), (15, .int (0))] rfl ?_
        exact loop_39 7 0 (by omega) (by omega)
  refine g_lv [2, 3, 4, 5, 6, 7, 8, 9, 10, 1, 0] [(0, .ref (h 0)), (1, .int (z)), (2, .ref (g 0)), (3, .ref (g 1)), (4, .ref (g 2)), (5, .ref (g 3)), (6, .ref (g 4)), (7, .ref (g 5)), (8, .ref (g 6)), (9, .int (1)), (10, .int (0))] rfl ?_
  exact loop_6 5 0 (by omega) (by omega)
