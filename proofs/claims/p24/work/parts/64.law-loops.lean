/-! The law's own loops. -/
theorem g_lret {p : Program} {l : Launch} {e : Env} {s : State} {m : MethodId} {below : List Frame} {meth : Method} {c : Code} {D : va_G} {TY : List (ClassId × FieldType)} {Ts : List Cond} {own : String} {bs k j pc : Nat} {w : va_W} {lv : List (Nat × Value)} (C : gC p s m #[Value.ref bs] meth c cL_law 18 own Ts D TY (fun q : Nat => s.heap.size ≤ q)) (hr : meth.sig.returnType = ret) (hd : decode code pc = .ok (.ireturn, 1)) (hk : k ≤ 167) (hj : j ≤ 2655) : G p l e room_1 s m #[Value.ref bs] below meth c D (fun q : Nat => s.heap.size ≤ q) 18 k j (lw_Z below #[Value.ref bs] s) w lv pc [.int 1] :=
  fun _ _ _ _ _ hS _ => va_forget (fun q hq => hS.2.2 q hq) (W.widen hk hj (lw_ret C.1 C.2.1 hr C.2.2.2.2.2.2.2.1 hd))
set_option maxRecDepth 100000 in
set_option maxHeartbeats 4000000 in
theorem law_turns {p : Program} {l : Launch} {e : Env} {s : State} {m : MethodId} {below : List Frame} {meth : Method} {c : Code} {D : va_G} {cI cJ : ClassId} {bs L : Nat} {xs : Nat → Int32} {h g : Nat → Nat} (hst : l.stackTraces = false) (C : gC p s m #[Value.ref bs] meth c cL_law 18 RL wsL_law D (tyIJ cI cJ) (fun q : Nat => s.heap.size ≤ q)) (hr : meth.sig.returnType = ret) (hX : va_X bs L xs s s.heap) (hbl : bs < s.heap.size) (hL : L ≤ 260) (T : Nat) (σ τ : gS) (hT : T ≤ 0) (hN0 : inv24 σ T) (hR0 : rel24 σ τ) : G p l e room_1 s m #[Value.ref bs] below meth c D (fun q : Nat => s.heap.size ≤ q) 18 21 1519 (lw_Z below #[Value.ref bs] s) (wB cI h g σ τ) [(0, .ref (bs)), (1, .ref (h 0)), (2, .ref (g 0)), (3, .ref (g 1)), (4, .ref (g 2)), (5, .ref (g 3)), (6, .ref (g 4)), (7, .ref (g 5)), (8, .ref (g 6)), (9, .ref (g 7)), (10, .int (1)), (11, .int (nI (T))), (12, .int (0))] 305 [] := by
  have hbA : ¬ (fun q : Nat => s.heap.size ≤ q) bs := Nat.not_le.mpr hbl
  have loop_305 : ∀ (fu : Nat) (n T : Nat) (σ τ : gS), n ≤ 120 → T ≤ 5 * n → inv24 σ T → rel24 σ τ → 121 ≤ n + fu → G p l e room_1 s m #[Value.ref bs] below meth c D (fun q : Nat => s.heap.size ≤ q) 18 (21 + n) (1519 + 6 * n) (lw_Z below #[Value.ref bs] s) (wB cI h g σ τ) [(0, .ref (bs)), (1, .ref (h 0)), (2, .ref (g 0)), (3, .ref (g 1)), (4, .ref (g 2)), (5, .ref (g 3)), (6, .ref (g 4)), (7, .ref (g 5)), (8, .ref (g 6)), (9, .ref (g 7)), (10, .int (1)), (11, .int (nI (T))), (12, .int (nI (n)))] 305 [] := by
    intro fu
    induction fu with
    | zero => intro n T σ τ hn hT hN hR hf; exact absurd True.intro (by omega)
    | succ fu ih_305 =>
      intro n T σ τ hn hT hN hR hf
      refine g_iload 12 C rfl dL_law_305 ?_
      refine g_bipush 120 C dL_law_307 (by decide) ?_
      refine g_icmp_ge 563 C dL_law_309 (by decide) (fun c_309_1 => ?_) (fun c_309_1 => ?_)
      ·
        have d_309_1 : 120 ≤ n := (nI_leI (a := 120) (b := n) (by omega) (by omega)).mp c_309_1
        refine g_iload 10 C rfl dL_law_563 ?_
        exact g_lret C hr dL_law_565 (by omega) (by omega)
      ·
        have d_309_1 : ¬ 120 ≤ n := fun zz => c_309_1 ((nI_leI (a := 120) (b := n) (by omega) (by omega)).mpr zz)
        refine g_iload 10 C rfl dL_law_312 ?_
        refine g_if_eq 563 C dL_law_314 (by decide) (fun q => absurd q (by decide)) (fun _ => ?_)
        refine g_aload_n 0 C rfl dL_law_317 rfl ?_
        refine g_iload 12 C rfl dL_law_318 ?_
        refine g_bX (na := 2) (av := [.ref (bs), .int (nI (n))]) (c_cell l D cI cJ bs L xs n (by omega) hL) hX hbl hbA C gL_law_L_cell rfl (by decide +kernel) rfl ⟨Nat.le_of_ble_eq_true rfl, Nat.le_of_ble_eq_true rfl⟩ rfl (Nat.le_of_ble_eq_true rfl) ⟨(by show (21 + n) ≤ 167; omega), (by show (1519 + 6 * n) ≤ 2655; omega)⟩ dL_law_320 ?_
        refine g_istore [(13, .int (cellV L xs n)), (0, .ref (bs)), (1, .ref (h 0)), (2, .ref (g 0)), (3, .ref (g 1)), (4, .ref (g 2)), (5, .ref (g 3)), (6, .ref (g 4)), (7, .ref (g 5)), (8, .ref (g 6)), (9, .ref (g 7)), (10, .int (1)), (11, .int (nI (T))), (12, .int (nI (n)))] C dL_law_323 (by decide) rfl ?_
        refine g_iload 0 C rfl dL_law_325 ?_
        refine g_bipush 32 C dL_law_327 (by decide) ?_
        obtain ⟨a, ea, ha⟩ := low_x ((cellV L xs n)) (n := 32) (by decide)
        refine g_bS (na := 2) (av := [.int (cellV L xs n), .int (32)]) (c_low l D cI cJ _ ((cellV L xs n)) 32 a (by decide) (by decide) ea) C gL_law_L_low rfl (by decide +kernel) rfl ⟨Nat.le_of_ble_eq_true rfl, Nat.le_of_ble_eq_true rfl⟩ rfl (Nat.le_of_ble_eq_true rfl) ⟨(by show (21 + n) ≤ 167; omega), (by show (1519 + 6 * n) ≤ 2655; omega)⟩ dL_law_329 ?_
        refine g_istore [(14, .int (nI (a))), (13, .int (cellV L xs n)), (0, .ref (bs)), (1, .ref (h 0)), (2, .ref (g 0)), (3, .ref (g 1)), (4, .ref (g 2)), (5, .ref (g 3)), (6, .ref (g 4)), (7, .ref (g 5)), (8, .ref (g 6)), (9, .ref (g 7)), (10, .int (1)), (11, .int (nI (T))), (12, .int (nI (n)))] C dL_law_332 (by decide) rfl ?_
        refine g_iload 1 C rfl dL_law_334 ?_
        refine g_iconst 5 C dL_law_336 (by decide) ?_
        refine g_ishr C dL_law_337 ?_
        refine g_istore [(15, .int ((cellV L xs n) >>> (5 &&& 31))), (14, .int (nI (a))), (13, .int (cellV L xs n)), (0, .ref (bs)), (1, .ref (h 0)), (2, .ref (g 0)), (3, .ref (g 1)), (4, .ref (g 2)), (5, .ref (g 3)), (6, .ref (g 4)), (7, .ref (g 5)), (8, .ref (g 6)), (9, .ref (g 7)), (10, .int (1)), (11, .int (nI (T))), (12, .int (nI (n)))] C dL_law_338 (by decide) rfl ?_
        refine g_iload 1 C rfl dL_law_340 ?_
        refine g_bipush 20 C dL_law_342 (by decide) ?_
        refine g_icmp_ge 414 C dL_law_344 (by decide) (fun c_344_2 => ?_) (fun c_344_2 => ?_)
        ·
          have d_344_2 : 20 ≤ a := (nI_leI (a := 20) (b := a) (by omega) (by omega)).mp c_344_2
          refine g_iload 1 C rfl dL_law_414 ?_
          refine g_bipush 28 C dL_law_416 (by decide) ?_
          refine g_icmp_ge 464 C dL_law_418 (by decide) (fun c_418_3 => ?_) (fun c_418_3 => ?_)
          ·
            have d_418_3 : 28 ≤ a := (nI_leI (a := 28) (b := a) (by omega) (by omega)).mp c_418_3
            refine g_iconst 1 C dL_law_464 (by decide) ?_
            refine g_iload 0 C rfl dL_law_465 ?_
            refine g_iconst 5 C dL_law_467 (by decide) ?_
            obtain ⟨d0, ed0, hd0⟩ := low_x (((cellV L xs n) >>> (5 &&& 31))) (n := 5) (by decide)
            refine g_bS (na := 2) (av := [.int ((cellV L xs n) >>> (5 &&& 31)), .int (5)]) (c_low l D cI cJ _ (((cellV L xs n) >>> (5 &&& 31))) 5 d0 (by decide) (by decide) ed0) C gL_law_L_low rfl (by decide +kernel) rfl ⟨Nat.le_of_ble_eq_true rfl, Nat.le_of_ble_eq_true rfl⟩ rfl (Nat.le_of_ble_eq_true rfl) ⟨(by show (21 + n) ≤ 167; omega), (by show (1519 + 6 * n) ≤ 2655; omega)⟩ dL_law_468 ?_
            refine g_iaddN 1 d0 C dL_law_471 ?_
            refine g_istore [(16, .int (nI (1 + d0))), (15, .int ((cellV L xs n) >>> (5 &&& 31))), (14, .int (nI (a))), (13, .int (cellV L xs n)), (0, .ref (bs)), (1, .ref (h 0)), (2, .ref (g 0)), (3, .ref (g 1)), (4, .ref (g 2)), (5, .ref (g 3)), (6, .ref (g 4)), (7, .ref (g 5)), (8, .ref (g 6)), (9, .ref (g 7)), (10, .int (1)), (11, .int (nI (T))), (12, .int (nI (n)))] C dL_law_472 (by decide) rfl ?_
            refine g_iconst 0 C dL_law_474 (by decide) ?_
            refine g_istore [(17, .int (0)), (16, .int (nI (1 + d0))), (15, .int ((cellV L xs n) >>> (5 &&& 31))), (14, .int (nI (a))), (13, .int (cellV L xs n)), (0, .ref (bs)), (1, .ref (h 0)), (2, .ref (g 0)), (3, .ref (g 1)), (4, .ref (g 2)), (5, .ref (g 3)), (6, .ref (g 4)), (7, .ref (g 5)), (8, .ref (g 6)), (9, .ref (g 7)), (10, .int (1)), (11, .int (nI (T))), (12, .int (nI (n)))] C dL_law_475 (by decide) rfl ?_
            have loop_477 : ∀ (fu : Nat) (k9 : Nat), k9 ≤ 1 + d0 → 2 + d0 ≤ k9 + fu → G p l e room_1 s m #[Value.ref bs] below meth c D (fun q : Nat => s.heap.size ≤ q) 18 (21 + n) (1519 + 6 * n) (lw_Z below #[Value.ref bs] s) (wB cI h g σ (dayN τ k9)) [(0, .ref (bs)), (1, .ref (h 0)), (2, .ref (g 0)), (3, .ref (g 1)), (4, .ref (g 2)), (5, .ref (g 3)), (6, .ref (g 4)), (7, .ref (g 5)), (8, .ref (g 6)), (9, .ref (g 7)), (10, .int (1)), (11, .int (nI (T))), (12, .int (nI (n))), (15, .int (cellV L xs n >>> (5 &&& 31))), (16, .int (nI (1 + d0))), (17, .int (nI (k9)))] 477 [] := by
              intro fu
              induction fu with
              | zero => intro k9 hk9 hf9; exact absurd True.intro (by omega)
              | succ fu ih_477 =>
                intro k9 hk9 hf9
                refine g_iload 15 C rfl dL_law_477 ?_
                refine g_iload 14 C rfl dL_law_479 ?_
                refine g_icmp_ge 497 C dL_law_481 (by decide) (fun c_481_4 => ?_) (fun c_481_4 => ?_)
                ·
                  have d_481_4 : (1 + d0) ≤ k9 := (nI_leI (a := (1 + d0)) (b := k9) (by omega) (by omega)).mp c_481_4
                  obtain rfl : k9 = 1 + d0 := by omega
                  refine g_iload 11 C rfl dL_law_497 ?_
                  refine g_iload 14 C rfl dL_law_499 ?_
                  refine g_iaddN T (1 + d0) C dL_law_501 ?_
                  refine g_istore [(11, .int (nI (T + (1 + d0)))), (0, .ref (bs)), (1, .ref (h 0)), (2, .ref (g 0)), (3, .ref (g 1)), (4, .ref (g 2)), (5, .ref (g 3)), (6, .ref (g 4)), (7, .ref (g 5)), (8, .ref (g 6)), (9, .ref (g 7)), (10, .int (1)), (12, .int (nI (n))), (15, .int (cellV L xs n >>> (5 &&& 31))), (16, .int (nI (1 + d0))), (17, .int (nI ((1 + d0))))] C dL_law_502 (by decide) rfl ?_
                  refine g_aload_n 2 C rfl dL_law_504 rfl ?_
                  refine g_iload 14 C rfl dL_law_505 ?_
                  obtain ⟨hK, hTd, hN1, hR1⟩ := P_ps hN hR (d := 1 + d0) (by omega) (by omega) (by omega)
                  refine g_bV (na := 1) (As := [.int (nI (1 + d0))]) (c_pass l D cI cJ hst h σ 4 6 4 4 hN.1 (nI (1 + d0)) 0 hK) C gL_law_X0_pass rfl (by decide +kernel) rfl ⟨Nat.le_of_ble_eq_true rfl, Nat.le_of_ble_eq_true rfl⟩ rfl (Nat.le_of_ble_eq_true rfl) ⟨(by show (21 + n) + 0 ≤ 167; omega), (by show (1519 + 6 * n) + 6 * 0 ≤ 2655; omega)⟩ dL_law_507 ?_
                  refine g_w (wB cI h g (sS (pfls σ (nI (1 + d0)) 4) 4 (σ.1 4 + nI (1 + d0))) (dayN τ (1 + d0))) rfl ?_
                  refine g_is (nI (T + (1 + d0))) hTd ?_
                  refine g_iload 0 C rfl dL_law_510 ?_
                  refine g_icmp_ne 519 C dL_law_512 (by decide) (fun q => absurd rfl q) (fun _ => ?_)
                  refine g_iconst 1 C dL_law_515 (by decide) ?_
                  refine g_goto 520 C dL_law_516 (by decide) ?_
                  refine g_istore [(10, .int (1)), (11, .int (nI (T + (1 + d0)))), (0, .ref (bs)), (1, .ref (h 0)), (2, .ref (g 0)), (3, .ref (g 1)), (4, .ref (g 2)), (5, .ref (g 3)), (6, .ref (g 4)), (7, .ref (g 5)), (8, .ref (g 6)), (9, .ref (g 7)), (12, .int (nI (n))), (15, .int (cellV L xs n >>> (5 &&& 31))), (16, .int (nI (1 + d0))), (17, .int (nI ((1 + d0))))] C dL_law_520 (by decide) rfl ?_
                  refine g_iload 0 C rfl dL_law_522 ?_
                  refine g_if_eq 554 C dL_law_524 (by decide) (fun q => absurd q (by decide)) (fun _ => ?_)
                  refine g_aload_n 3 C rfl dL_law_527 rfl ?_
                  refine g_iload 13 C rfl dL_law_528 ?_
                  refine g_iconst 1 C dL_law_530 (by decide) ?_
                  refine g_ishr C dL_law_531 ?_
                  refine g_aload_n 4 C rfl dL_law_532 rfl ?_
                  refine g_aload_n 5 C rfl dL_law_533 rfl ?_
                  refine g_aload 6 C rfl dL_law_534 ?_
                  refine g_aload 7 C rfl dL_law_536 ?_
                  refine g_aload 8 C rfl dL_law_538 ?_
                  refine g_aload 9 C rfl dL_law_540 ?_
                  refine g_aload 10 C rfl dL_law_542 ?_
                  refine g_bB (na := 9) (av := [.ref (h 0), .int ((cellV L xs n >>> (5 &&& 31)) >>> (1 &&& 31)), .ref (g 0), .ref (g 1), .ref (g 2), .ref (g 3), .ref (g 4), .ref (g 5), .ref (g 6)]) (c_same l D cI cJ hst h g (sS (pfls σ (nI (1 + d0)) 4) 4 (σ.1 4 + nI (1 + d0))) (dayN τ (1 + d0)) hN1.1 (T + (1 + d0)) (by omega) hN1 hR1 (((cellV L xs n >>> (5 &&& 31)) >>> (1 &&& 31)))) C gL_law_L_same rfl (by decide +kernel) rfl ⟨Nat.le_of_ble_eq_true rfl, Nat.le_of_ble_eq_true rfl⟩ rfl (Nat.le_of_ble_eq_true rfl) ⟨(by show ((21 + n) + 0) + 0 ≤ 167; omega), (by show ((1519 + 6 * n) + 6 * 0) + 6 * 0 ≤ 2655; omega)⟩ dL_law_544 ?_
                  refine g_if_eq 554 C dL_law_547 (by decide) (fun q => absurd q (by decide)) (fun _ => ?_)
                  refine g_iconst 1 C dL_law_550 (by decide) ?_
                  refine g_goto 555 C dL_law_551 (by decide) ?_
                  refine g_istore [(10, .int (1)), (11, .int (nI (T + (1 + d0)))), (0, .ref (bs)), (1, .ref (h 0)), (2, .ref (g 0)), (3, .ref (g 1)), (4, .ref (g 2)), (5, .ref (g 3)), (6, .ref (g 4)), (7, .ref (g 5)), (8, .ref (g 6)), (9, .ref (g 7)), (12, .int (nI (n))), (15, .int (cellV L xs n >>> (5 &&& 31))), (16, .int (nI (1 + d0))), (17, .int (nI ((1 + d0))))] C dL_law_555 (by decide) rfl ?_
                  refine g_iincN 12 n 1 [(12, .int (nI (n + 1))), (10, .int (1)), (11, .int (nI (T + (1 + d0)))), (0, .ref (bs)), (1, .ref (h 0)), (2, .ref (g 0)), (3, .ref (g 1)), (4, .ref (g 2)), (5, .ref (g 3)), (6, .ref (g 4)), (7, .ref (g 5)), (8, .ref (g 6)), (9, .ref (g 7)), (15, .int (cellV L xs n >>> (5 &&& 31))), (16, .int (nI (1 + d0))), (17, .int (nI ((1 + d0))))] C dL_law_557 rfl (by decide) (by decide) rfl ?_
                  refine g_goto 305 C dL_law_560 (by decide) ?_
                  refine g_lv [3, 4, 5, 6, 7, 8, 9, 10, 11, 12, 1, 2, 0] [(0, .ref (bs)), (1, .ref (h 0)), (2, .ref (g 0)), (3, .ref (g 1)), (4, .ref (g 2)), (5, .ref (g 3)), (6, .ref (g 4)), (7, .ref (g 5)), (8, .ref (g 6)), (9, .ref (g 7)), (10, .int (1)), (11, .int (nI (T + (1 + d0)))), (12, .int (nI (n + 1)))] rfl ?_
                  refine g_widen (k' := 21 + (n + 1)) (j' := 1519 + 6 * (n + 1)) (by simp only [nT]; omega) (by simp only [nT]; omega) ?_
                  exact ih_305 (n + 1) (T + (1 + d0)) (sS (pfls σ (nI (1 + d0)) 4) 4 (σ.1 4 + nI (1 + d0))) (dayN τ (1 + d0)) (by omega) (by omega) hN1 hR1 (by omega)
                ·
                  have d_481_4 : ¬ (1 + d0) ≤ k9 := fun zz => c_481_4 ((nI_leI (a := (1 + d0)) (b := k9) (by omega) (by omega)).mpr zz)
                  refine g_aload 7 C rfl dL_law_484 ?_
                  refine g_aload 8 C rfl dL_law_486 ?_
                  refine g_bL (na := 2) (av := [.ref (g 5), .ref (g 6)]) (c_day l D cI cJ g (dayN τ k9) (dOK_N hN hR k9)) C gL_law_L_day rfl (by decide +kernel) rfl ⟨Nat.le_of_ble_eq_true rfl, Nat.le_of_ble_eq_true rfl⟩ rfl (Nat.le_of_ble_eq_true rfl) ⟨(by show (21 + n) + 0 ≤ 167; omega), (by show (1519 + 6 * n) + 6 * 0 ≤ 2655; omega)⟩ dL_law_488 ?_
                  refine g_w (wB cI h g σ (dayN τ (k9 + 1))) rfl ?_
                  refine g_iincN 15 k9 1 [(17, .int (nI (k9 + 1))), (0, .ref (bs)), (1, .ref (h 0)), (2, .ref (g 0)), (3, .ref (g 1)), (4, .ref (g 2)), (5, .ref (g 3)), (6, .ref (g 4)), (7, .ref (g 5)), (8, .ref (g 6)), (9, .ref (g 7)), (10, .int (1)), (11, .int (nI (T))), (12, .int (nI (n))), (15, .int (cellV L xs n >>> (5 &&& 31))), (16, .int (nI (1 + d0)))] C dL_law_491 rfl (by decide) (by decide) rfl ?_
                  refine g_goto 477 C dL_law_494 (by decide) ?_
                  refine g_lv [1, 2, 3, 4, 5, 6, 7, 8, 9, 10, 11, 12, 13, 14, 15, 0] [(0, .ref (bs)), (1, .ref (h 0)), (2, .ref (g 0)), (3, .ref (g 1)), (4, .ref (g 2)), (5, .ref (g 3)), (6, .ref (g 4)), (7, .ref (g 5)), (8, .ref (g 6)), (9, .ref (g 7)), (10, .int (1)), (11, .int (nI (T))), (12, .int (nI (n))), (15, .int (cellV L xs n >>> (5 &&& 31))), (16, .int (nI (1 + d0))), (17, .int (nI (k9 + 1)))] rfl ?_
                  exact ih_477 (k9 + 1) (by omega) (by omega)
            refine g_lv [5, 6, 7, 8, 9, 10, 11, 12, 13, 14, 15, 16, 17, 2, 1, 0] [(0, .ref (bs)), (1, .ref (h 0)), (2, .ref (g 0)), (3, .ref (g 1)), (4, .ref (g 2)), (5, .ref (g 3)), (6, .ref (g 4)), (7, .ref (g 5)), (8, .ref (g 6)), (9, .ref (g 7)), (10, .int (1)), (11, .int (nI (T))), (12, .int (nI (n))), (15, .int ((cellV L xs n) >>> (5 &&& 31))), (16, .int (nI (1 + d0))), (17, .int (0))] rfl ?_
            exact loop_477 (2 + d0) 0 (by omega) (by omega)
          ·
            have d_418_3 : ¬ 28 ≤ a := fun zz => c_418_3 ((nI_leI (a := 28) (b := a) (by omega) (by omega)).mpr zz)
            refine g_aload_n 4 C rfl dL_law_421 rfl ?_
            refine g_iload 1 C rfl dL_law_422 ?_
            refine g_bipush 23 C dL_law_424 (by decide) ?_
            refine g_icmp_ge 433 C dL_law_426 (by decide) (fun c_426_5 => ?_) (fun c_426_5 => ?_)
            ·
              have d_426_5 : 23 ≤ a := (nI_leI (a := 23) (b := a) (by omega) (by omega)).mp c_426_5
              refine g_iload 1 C rfl dL_law_433 ?_
              refine g_bipush 26 C dL_law_435 (by decide) ?_
              refine g_icmp_ge 444 C dL_law_437 (by decide) (fun c_437_6 => ?_) (fun c_437_6 => ?_)
              ·
                have d_437_6 : 26 ≤ a := (nI_leI (a := 26) (b := a) (by omega) (by omega)).mp c_437_6
                refine g_iconst 2 C dL_law_444 (by decide) ?_
                refine g_iload 0 C rfl dL_law_445 ?_
                refine g_aload_n 6 C rfl dL_law_447 rfl ?_
                refine g_aload 8 C rfl dL_law_448 ?_
                refine g_aload 9 C rfl dL_law_450 ?_
                refine g_aload 10 C rfl dL_law_452 ?_
                refine g_aload 11 C rfl dL_law_454 ?_
                obtain ⟨σ1, τ1, n1, hn1, hN1, hR1, hM⟩ := t_da l D cI cJ h g σ τ T hst hN hR (((cellV L xs n) >>> (5 &&& 31)))
                refine g_bB (na := 8) (av := [.ref (h 0), .int (2), .int ((cellV L xs n) >>> (5 &&& 31)), .ref (g 1), .ref (g 3), .ref (g 4), .ref (g 5), .ref (g 6)]) (hM) C gL_law_L_trades rfl (by decide +kernel) rfl ⟨Nat.le_of_ble_eq_true rfl, Nat.le_of_ble_eq_true rfl⟩ rfl (Nat.le_of_ble_eq_true rfl) ⟨(by show (21 + n) + n1 ≤ 167; omega), (by show (1519 + 6 * n) + 6 * n1 ≤ 2655; omega)⟩ dL_law_456 ?_
                refine g_w (wB cI h g σ1 τ1) rfl ?_
                refine g_istore [(10, .int (1)), (15, .int ((cellV L xs n) >>> (5 &&& 31))), (14, .int (nI (a))), (13, .int (cellV L xs n)), (0, .ref (bs)), (1, .ref (h 0)), (2, .ref (g 0)), (3, .ref (g 1)), (4, .ref (g 2)), (5, .ref (g 3)), (6, .ref (g 4)), (7, .ref (g 5)), (8, .ref (g 6)), (9, .ref (g 7)), (11, .int (nI (T))), (12, .int (nI (n)))] C dL_law_459 (by decide) rfl ?_
                refine g_goto 522 C dL_law_461 (by decide) ?_
                refine g_iload 0 C rfl dL_law_522 ?_
                refine g_if_eq 554 C dL_law_524 (by decide) (fun q => absurd q (by decide)) (fun _ => ?_)
                refine g_aload_n 5 C rfl dL_law_527 rfl ?_
                refine g_iload 1 C rfl dL_law_528 ?_
                refine g_iconst 1 C dL_law_530 (by decide) ?_
                refine g_ishr C dL_law_531 ?_
                refine g_aload_n 6 C rfl dL_law_532 rfl ?_
                refine g_aload_n 7 C rfl dL_law_533 rfl ?_
                refine g_aload 8 C rfl dL_law_534 ?_
                refine g_aload 9 C rfl dL_law_536 ?_
                refine g_aload 10 C rfl dL_law_538 ?_
                refine g_aload 11 C rfl dL_law_540 ?_
                refine g_aload 12 C rfl dL_law_542 ?_
                refine g_bB (na := 9) (av := [.ref (h 0), .int (((cellV L xs n) >>> (5 &&& 31)) >>> (1 &&& 31)), .ref (g 0), .ref (g 1), .ref (g 2), .ref (g 3), .ref (g 4), .ref (g 5), .ref (g 6)]) (c_same l D cI cJ hst h g σ1 τ1 hN1.1 T (by omega) hN1 hR1 ((((cellV L xs n) >>> (5 &&& 31)) >>> (1 &&& 31)))) C gL_law_L_same rfl (by decide +kernel) rfl ⟨Nat.le_of_ble_eq_true rfl, Nat.le_of_ble_eq_true rfl⟩ rfl (Nat.le_of_ble_eq_true rfl) ⟨(by show ((21 + n) + n1) + 0 ≤ 167; omega), (by show ((1519 + 6 * n) + 6 * n1) + 6 * 0 ≤ 2655; omega)⟩ dL_law_544 ?_
                refine g_if_eq 554 C dL_law_547 (by decide) (fun q => absurd q (by decide)) (fun _ => ?_)
                refine g_iconst 1 C dL_law_550 (by decide) ?_
                refine g_goto 555 C dL_law_551 (by decide) ?_
                refine g_istore [(10, .int (1)), (15, .int ((cellV L xs n) >>> (5 &&& 31))), (14, .int (nI (a))), (13, .int (cellV L xs n)), (0, .ref (bs)), (1, .ref (h 0)), (2, .ref (g 0)), (3, .ref (g 1)), (4, .ref (g 2)), (5, .ref (g 3)), (6, .ref (g 4)), (7, .ref (g 5)), (8, .ref (g 6)), (9, .ref (g 7)), (11, .int (nI (T))), (12, .int (nI (n)))] C dL_law_555 (by decide) rfl ?_
                refine g_iincN 15 n 1 [(12, .int (nI (n + 1))), (10, .int (1)), (15, .int ((cellV L xs n) >>> (5 &&& 31))), (14, .int (nI (a))), (13, .int (cellV L xs n)), (0, .ref (bs)), (1, .ref (h 0)), (2, .ref (g 0)), (3, .ref (g 1)), (4, .ref (g 2)), (5, .ref (g 3)), (6, .ref (g 4)), (7, .ref (g 5)), (8, .ref (g 6)), (9, .ref (g 7)), (11, .int (nI (T)))] C dL_law_557 rfl (by decide) (by decide) rfl ?_
                refine g_goto 305 C dL_law_560 (by decide) ?_
                refine g_lv [5, 6, 7, 8, 9, 10, 11, 12, 13, 14, 1, 15, 0] [(0, .ref (bs)), (1, .ref (h 0)), (2, .ref (g 0)), (3, .ref (g 1)), (4, .ref (g 2)), (5, .ref (g 3)), (6, .ref (g 4)), (7, .ref (g 5)), (8, .ref (g 6)), (9, .ref (g 7)), (10, .int (1)), (11, .int (nI (T))), (12, .int (nI (n + 1)))] rfl ?_
                refine g_widen (k' := 21 + (n + 1)) (j' := 1519 + 6 * (n + 1)) (by omega) (by omega) ?_
                exact ih_305 (n + 1) T σ1 τ1 (by omega) (by omega) hN1 hR1 (by omega)
              ·
                have d_437_6 : ¬ 26 ≤ a := fun zz => c_437_6 ((nI_leI (a := 26) (b := a) (by omega) (by omega)).mpr zz)
                refine g_iconst 1 C dL_law_440 (by decide) ?_
                refine g_goto 445 C dL_law_441 (by decide) ?_
                refine g_iload 0 C rfl dL_law_445 ?_
                refine g_aload_n 6 C rfl dL_law_447 rfl ?_
                refine g_aload 8 C rfl dL_law_448 ?_
                refine g_aload 9 C rfl dL_law_450 ?_
                refine g_aload 10 C rfl dL_law_452 ?_
                refine g_aload 11 C rfl dL_law_454 ?_
                obtain ⟨σ1, τ1, n1, hn1, hN1, hR1, hM⟩ := t_se l D cI cJ h g σ τ T hst (by omega) hN hR (((cellV L xs n) >>> (5 &&& 31)))
                refine g_bB (na := 8) (av := [.ref (h 0), .int (1), .int ((cellV L xs n) >>> (5 &&& 31)), .ref (g 1), .ref (g 3), .ref (g 4), .ref (g 5), .ref (g 6)]) (hM) C gL_law_L_trades rfl (by decide +kernel) rfl ⟨Nat.le_of_ble_eq_true rfl, Nat.le_of_ble_eq_true rfl⟩ rfl (Nat.le_of_ble_eq_true rfl) ⟨(by show (21 + n) + n1 ≤ 167; omega), (by show (1519 + 6 * n) + 6 * n1 ≤ 2655; omega)⟩ dL_law_456 ?_
                refine g_w (wB cI h g σ1 τ1) rfl ?_
                refine g_istore [(10, .int (1)), (15, .int ((cellV L xs n) >>> (5 &&& 31))), (14, .int (nI (a))), (13, .int (cellV L xs n)), (0, .ref (bs)), (1, .ref (h 0)), (2, .ref (g 0)), (3, .ref (g 1)), (4, .ref (g 2)), (5, .ref (g 3)), (6, .ref (g 4)), (7, .ref (g 5)), (8, .ref (g 6)), (9, .ref (g 7)), (11, .int (nI (T))), (12, .int (nI (n)))] C dL_law_459 (by decide) rfl ?_
                refine g_goto 522 C dL_law_461 (by decide) ?_
                refine g_iload 0 C rfl dL_law_522 ?_
                refine g_if_eq 554 C dL_law_524 (by decide) (fun q => absurd q (by decide)) (fun _ => ?_)
                refine g_aload_n 5 C rfl dL_law_527 rfl ?_
                refine g_iload 1 C rfl dL_law_528 ?_
                refine g_iconst 1 C dL_law_530 (by decide) ?_
                refine g_ishr C dL_law_531 ?_
                refine g_aload_n 6 C rfl dL_law_532 rfl ?_
                refine g_aload_n 7 C rfl dL_law_533 rfl ?_
                refine g_aload 8 C rfl dL_law_534 ?_
                refine g_aload 9 C rfl dL_law_536 ?_
                refine g_aload 10 C rfl dL_law_538 ?_
                refine g_aload 11 C rfl dL_law_540 ?_
                refine g_aload 12 C rfl dL_law_542 ?_
                refine g_bB (na := 9) (av := [.ref (h 0), .int (((cellV L xs n) >>> (5 &&& 31)) >>> (1 &&& 31)), .ref (g 0), .ref (g 1), .ref (g 2), .ref (g 3), .ref (g 4), .ref (g 5), .ref (g 6)]) (c_same l D cI cJ hst h g σ1 τ1 hN1.1 T (by omega) hN1 hR1 ((((cellV L xs n) >>> (5 &&& 31)) >>> (1 &&& 31)))) C gL_law_L_same rfl (by decide +kernel) rfl ⟨Nat.le_of_ble_eq_true rfl, Nat.le_of_ble_eq_true rfl⟩ rfl (Nat.le_of_ble_eq_true rfl) ⟨(by show ((21 + n) + n1) + 0 ≤ 167; omega), (by show ((1519 + 6 * n) + 6 * n1) + 6 * 0 ≤ 2655; omega)⟩ dL_law_544 ?_
                refine g_if_eq 554 C dL_law_547 (by decide) (fun q => absurd q (by decide)) (fun _ => ?_)
                refine g_iconst 1 C dL_law_550 (by decide) ?_
                refine g_goto 555 C dL_law_551 (by decide) ?_
                refine g_istore [(10, .int (1)), (15, .int ((cellV L xs n) >>> (5 &&& 31))), (14, .int (nI (a))), (13, .int (cellV L xs n)), (0, .ref (bs)), (1, .ref (h 0)), (2, .ref (g 0)), (3, .ref (g 1)), (4, .ref (g 2)), (5, .ref (g 3)), (6, .ref (g 4)), (7, .ref (g 5)), (8, .ref (g 6)), (9, .ref (g 7)), (11, .int (nI (T))), (12, .int (nI (n)))] C dL_law_555 (by decide) rfl ?_
                refine g_iincN 15 n 1 [(12, .int (nI (n + 1))), (10, .int (1)), (15, .int ((cellV L xs n) >>> (5 &&& 31))), (14, .int (nI (a))), (13, .int (cellV L xs n)), (0, .ref (bs)), (1, .ref (h 0)), (2, .ref (g 0)), (3, .ref (g 1)), (4, .ref (g 2)), (5, .ref (g 3)), (6, .ref (g 4)), (7, .ref (g 5)), (8, .ref (g 6)), (9, .ref (g 7)), (11, .int (nI (T)))] C dL_law_557 rfl (by decide) (by decide) rfl ?_
                refine g_goto 305 C dL_law_560 (by decide) ?_
                refine g_lv [5, 6, 7, 8, 9, 10, 11, 12, 13, 14, 1, 15, 0] [(0, .ref (bs)), (1, .ref (h 0)), (2, .ref (g 0)), (3, .ref (g 1)), (4, .ref (g 2)), (5, .ref (g 3)), (6, .ref (g 4)), (7, .ref (g 5)), (8, .ref (g 6)), (9, .ref (g 7)), (10, .int (1)), (11, .int (nI (T))), (12, .int (nI (n + 1)))] rfl ?_
                refine g_widen (k' := 21 + (n + 1)) (j' := 1519 + 6 * (n + 1)) (by omega) (by omega) ?_
                exact ih_305 (n + 1) T σ1 τ1 (by omega) (by omega) hN1 hR1 (by omega)
            ·
              have d_426_5 : ¬ 23 ≤ a := fun zz => c_426_5 ((nI_leI (a := 23) (b := a) (by omega) (by omega)).mpr zz)
              refine g_iconst 0 C dL_law_429 (by decide) ?_
              refine g_goto 445 C dL_law_430 (by decide) ?_
              refine g_iload 0 C rfl dL_law_445 ?_
              refine g_aload_n 6 C rfl dL_law_447 rfl ?_
              refine g_aload 8 C rfl dL_law_448 ?_
              refine g_aload 9 C rfl dL_law_450 ?_
              refine g_aload 10 C rfl dL_law_452 ?_
              refine g_aload 11 C rfl dL_law_454 ?_
              obtain ⟨σ1, τ1, n1, hn1, hN1, hR1, hM⟩ := t_le l D cI cJ h g σ τ T hst (by omega) hN hR (((cellV L xs n) >>> (5 &&& 31)))
              refine g_bB (na := 8) (av := [.ref (h 0), .int (0), .int ((cellV L xs n) >>> (5 &&& 31)), .ref (g 1), .ref (g 3), .ref (g 4), .ref (g 5), .ref (g 6)]) (hM) C gL_law_L_trades rfl (by decide +kernel) rfl ⟨Nat.le_of_ble_eq_true rfl, Nat.le_of_ble_eq_true rfl⟩ rfl (Nat.le_of_ble_eq_true rfl) ⟨(by show (21 + n) + n1 ≤ 167; omega), (by show (1519 + 6 * n) + 6 * n1 ≤ 2655; omega)⟩ dL_law_456 ?_
              refine g_w (wB cI h g σ1 τ1) rfl ?_
              refine g_istore [(10, .int (1)), (15, .int ((cellV L xs n) >>> (5 &&& 31))), (14, .int (nI (a))), (13, .int (cellV L xs n)), (0, .ref (bs)), (1, .ref (h 0)), (2, .ref (g 0)), (3, .ref (g 1)), (4, .ref (g 2)), (5, .ref (g 3)), (6, .ref (g 4)), (7, .ref (g 5)), (8, .ref (g 6)), (9, .ref (g 7)), (11, .int (nI (T))), (12, .int (nI (n)))] C dL_law_459 (by decide) rfl ?_
              refine g_goto 522 C dL_law_461 (by decide) ?_
              refine g_iload 0 C rfl dL_law_522 ?_
              refine g_if_eq 554 C dL_law_524 (by decide) (fun q => absurd q (by decide)) (fun _ => ?_)
              refine g_aload_n 5 C rfl dL_law_527 rfl ?_
              refine g_iload 1 C rfl dL_law_528 ?_
              refine g_iconst 1 C dL_law_530 (by decide) ?_
              refine g_ishr C dL_law_531 ?_
              refine g_aload_n 6 C rfl dL_law_532 rfl ?_
              refine g_aload_n 7 C rfl dL_law_533 rfl ?_
              refine g_aload 8 C rfl dL_law_534 ?_
              refine g_aload 9 C rfl dL_law_536 ?_
              refine g_aload 10 C rfl dL_law_538 ?_
              refine g_aload 11 C rfl dL_law_540 ?_
              refine g_aload 12 C rfl dL_law_542 ?_
              refine g_bB (na := 9) (av := [.ref (h 0), .int (((cellV L xs n) >>> (5 &&& 31)) >>> (1 &&& 31)), .ref (g 0), .ref (g 1), .ref (g 2), .ref (g 3), .ref (g 4), .ref (g 5), .ref (g 6)]) (c_same l D cI cJ hst h g σ1 τ1 hN1.1 T (by omega) hN1 hR1 ((((cellV L xs n) >>> (5 &&& 31)) >>> (1 &&& 31)))) C gL_law_L_same rfl (by decide +kernel) rfl ⟨Nat.le_of_ble_eq_true rfl, Nat.le_of_ble_eq_true rfl⟩ rfl (Nat.le_of_ble_eq_true rfl) ⟨(by show ((21 + n) + n1) + 0 ≤ 167; omega), (by show ((1519 + 6 * n) + 6 * n1) + 6 * 0 ≤ 2655; omega)⟩ dL_law_544 ?_
              refine g_if_eq 554 C dL_law_547 (by decide) (fun q => absurd q (by decide)) (fun _ => ?_)
              refine g_iconst 1 C dL_law_550 (by decide) ?_
              refine g_goto 555 C dL_law_551 (by decide) ?_
              refine g_istore [(10, .int (1)), (15, .int ((cellV L xs n) >>> (5 &&& 31))), (14, .int (nI (a))), (13, .int (cellV L xs n)), (0, .ref (bs)), (1, .ref (h 0)), (2, .ref (g 0)), (3, .ref (g 1)), (4, .ref (g 2)), (5, .ref (g 3)), (6, .ref (g 4)), (7, .ref (g 5)), (8, .ref (g 6)), (9, .ref (g 7)), (11, .int (nI (T))), (12, .int (nI (n)))] C dL_law_555 (by decide) rfl ?_
              refine g_iincN 15 n 1 [(12, .int (nI (n + 1))), (10, .int (1)), (15, .int ((cellV L xs n) >>> (5 &&& 31))), (14, .int (nI (a))), (13, .int (cellV L xs n)), (0, .ref (bs)), (1, .ref (h 0)), (2, .ref (g 0)), (3, .ref (g 1)), (4, .ref (g 2)), (5, .ref (g 3)), (6, .ref (g 4)), (7, .ref (g 5)), (8, .ref (g 6)), (9, .ref (g 7)), (11, .int (nI (T)))] C dL_law_557 rfl (by decide) (by decide) rfl ?_
              refine g_goto 305 C dL_law_560 (by decide) ?_
              refine g_lv [5, 6, 7, 8, 9, 10, 11, 12, 13, 14, 1, 15, 0] [(0, .ref (bs)), (1, .ref (h 0)), (2, .ref (g 0)), (3, .ref (g 1)), (4, .ref (g 2)), (5, .ref (g 3)), (6, .ref (g 4)), (7, .ref (g 5)), (8, .ref (g 6)), (9, .ref (g 7)), (10, .int (1)), (11, .int (nI (T))), (12, .int (nI (n + 1)))] rfl ?_
              refine g_widen (k' := 21 + (n + 1)) (j' := 1519 + 6 * (n + 1)) (by omega) (by omega) ?_
              exact ih_305 (n + 1) T σ1 τ1 (by omega) (by omega) hN1 hR1 (by omega)
        ·
          have d_344_2 : ¬ 20 ≤ a := fun zz => c_344_2 ((nI_leI (a := 20) (b := a) (by omega) (by omega)).mpr zz)
          refine g_aload_n 4 C rfl dL_law_347 rfl ?_
          refine g_iload 1 C rfl dL_law_348 ?_
          refine g_bipush 7 C dL_law_350 (by decide) ?_
          refine g_icmp_ge 359 C dL_law_352 (by decide) (fun c_352_7 => ?_) (fun c_352_7 => ?_)
          ·
            have d_352_7 : 7 ≤ a := (nI_leI (a := 7) (b := a) (by omega) (by omega)).mp c_352_7
            refine g_iload 1 C rfl dL_law_359 ?_
            refine g_bipush 10 C dL_law_361 (by decide) ?_
            refine g_icmp_ge 370 C dL_law_363 (by decide) (fun c_363_8 => ?_) (fun c_363_8 => ?_)
            ·
              have d_363_8 : 10 ≤ a := (nI_leI (a := 10) (b := a) (by omega) (by omega)).mp c_363_8
              refine g_iload 1 C rfl dL_law_370 ?_
              refine g_bipush 10 C dL_law_372 (by decide) ?_
              refine g_icmp_ne 381 C dL_law_374 (by decide) (fun c_374_9 => ?_) (fun c_374_9 => ?_)
              ·
                have d_374_9 : ¬ a = 10 := fun zz => c_374_9 ((nI_eq (a := a) (b := 10) (by omega) (by omega)).mpr zz)
                refine g_iload 1 C rfl dL_law_381 ?_
                refine g_bipush 18 C dL_law_383 (by decide) ?_
                refine g_icmp_ge 392 C dL_law_385 (by decide) (fun c_385_10 => ?_) (fun c_385_10 => ?_)
                ·
                  have d_385_10 : 18 ≤ a := (nI_leI (a := 18) (b := a) (by omega) (by omega)).mp c_385_10
                  refine g_iconst 4 C dL_law_392 (by decide) ?_
                  refine g_iload 0 C rfl dL_law_393 ?_
                  refine g_aload_n 6 C rfl dL_law_395 rfl ?_
                  refine g_aload 7 C rfl dL_law_396 ?_
                  refine g_aload 8 C rfl dL_law_398 ?_
                  refine g_aload 9 C rfl dL_law_400 ?_
                  refine g_aload 10 C rfl dL_law_402 ?_
                  refine g_aload 12 C rfl dL_law_404 ?_
                  obtain ⟨σ1, τ1, n1, hn1, hN1, hR1, hM⟩ := m_cl l D cI cJ h g σ τ T hst hN hR (((cellV L xs n) >>> (5 &&& 31)))
                  refine g_bB (na := 9) (av := [.ref (h 0), .int (4), .int ((cellV L xs n) >>> (5 &&& 31)), .ref (g 1), .ref (g 2), .ref (g 3), .ref (g 4), .ref (g 5), .ref (g 7)]) (hM) C gL_law_L_mixes rfl (by decide +kernel) rfl ⟨Nat.le_of_ble_eq_true rfl, Nat.le_of_ble_eq_true rfl⟩ rfl (Nat.le_of_ble_eq_true rfl) ⟨(by show (21 + n) + n1 ≤ 167; omega), (by show (1519 + 6 * n) + 6 * n1 ≤ 2655; omega)⟩ dL_law_406 ?_
                  refine g_w (wB cI h g σ1 τ1) rfl ?_
                  refine g_istore [(10, .int (1)), (15, .int ((cellV L xs n) >>> (5 &&& 31))), (14, .int (nI (a))), (13, .int (cellV L xs n)), (0, .ref (bs)), (1, .ref (h 0)), (2, .ref (g 0)), (3, .ref (g 1)), (4, .ref (g 2)), (5, .ref (g 3)), (6, .ref (g 4)), (7, .ref (g 5)), (8, .ref (g 6)), (9, .ref (g 7)), (11, .int (nI (T))), (12, .int (nI (n)))] C dL_law_409 (by decide) rfl ?_
                  refine g_goto 522 C dL_law_411 (by decide) ?_
                  refine g_iload 0 C rfl dL_law_522 ?_
                  refine g_if_eq 554 C dL_law_524 (by decide) (fun q => absurd q (by decide)) (fun _ => ?_)
                  refine g_aload_n 5 C rfl dL_law_527 rfl ?_
                  refine g_iload 1 C rfl dL_law_528 ?_
                  refine g_iconst 1 C dL_law_530 (by decide) ?_
                  refine g_ishr C dL_law_531 ?_
                  refine g_aload_n 6 C rfl dL_law_532 rfl ?_
                  refine g_aload_n 7 C rfl dL_law_533 rfl ?_
                  refine g_aload 8 C rfl dL_law_534 ?_
                  refine g_aload 9 C rfl dL_law_536 ?_
                  refine g_aload 10 C rfl dL_law_538 ?_
                  refine g_aload 11 C rfl dL_law_540 ?_
                  refine g_aload 12 C rfl dL_law_542 ?_
                  refine g_bB (na := 9) (av := [.ref (h 0), .int (((cellV L xs n) >>> (5 &&& 31)) >>> (1 &&& 31)), .ref (g 0), .ref (g 1), .ref (g 2), .ref (g 3), .ref (g 4), .ref (g 5), .ref (g 6)]) (c_same l D cI cJ hst h g σ1 τ1 hN1.1 T (by omega) hN1 hR1 ((((cellV L xs n) >>> (5 &&& 31)) >>> (1 &&& 31)))) C gL_law_L_same rfl (by decide +kernel) rfl ⟨Nat.le_of_ble_eq_true rfl, Nat.le_of_ble_eq_true rfl⟩ rfl (Nat.le_of_ble_eq_true rfl) ⟨(by show ((21 + n) + n1) + 0 ≤ 167; omega), (by show ((1519 + 6 * n) + 6 * n1) + 6 * 0 ≤ 2655; omega)⟩ dL_law_544 ?_
                  refine g_if_eq 554 C dL_law_547 (by decide) (fun q => absurd q (by decide)) (fun _ => ?_)
                  refine g_iconst 1 C dL_law_550 (by decide) ?_
                  refine g_goto 555 C dL_law_551 (by decide) ?_
                  refine g_istore [(10, .int (1)), (15, .int ((cellV L xs n) >>> (5 &&& 31))), (14, .int (nI (a))), (13, .int (cellV L xs n)), (0, .ref (bs)), (1, .ref (h 0)), (2, .ref (g 0)), (3, .ref (g 1)), (4, .ref (g 2)), (5, .ref (g 3)), (6, .ref (g 4)), (7, .ref (g 5)), (8, .ref (g 6)), (9, .ref (g 7)), (11, .int (nI (T))), (12, .int (nI (n)))] C dL_law_555 (by decide) rfl ?_
                  refine g_iincN 15 n 1 [(12, .int (nI (n + 1))), (10, .int (1)), (15, .int ((cellV L xs n) >>> (5 &&& 31))), (14, .int (nI (a))), (13, .int (cellV L xs n)), (0, .ref (bs)), (1, .ref (h 0)), (2, .ref (g 0)), (3, .ref (g 1)), (4, .ref (g 2)), (5, .ref (g 3)), (6, .ref (g 4)), (7, .ref (g 5)), (8, .ref (g 6)), (9, .ref (g 7)), (11, .int (nI (T)))] C dL_law_557 rfl (by decide) (by decide) rfl ?_
                  refine g_goto 305 C dL_law_560 (by decide) ?_
                  refine g_lv [5, 6, 7, 8, 9, 10, 11, 12, 13, 14, 1, 15, 0] [(0, .ref (bs)), (1, .ref (h 0)), (2, .ref (g 0)), (3, .ref (g 1)), (4, .ref (g 2)), (5, .ref (g 3)), (6, .ref (g 4)), (7, .ref (g 5)), (8, .ref (g 6)), (9, .ref (g 7)), (10, .int (1)), (11, .int (nI (T))), (12, .int (nI (n + 1)))] rfl ?_
                  refine g_widen (k' := 21 + (n + 1)) (j' := 1519 + 6 * (n + 1)) (by omega) (by omega) ?_
                  exact ih_305 (n + 1) T σ1 τ1 (by omega) (by omega) hN1 hR1 (by omega)
                ·
                  have d_385_10 : ¬ 18 ≤ a := fun zz => c_385_10 ((nI_leI (a := 18) (b := a) (by omega) (by omega)).mpr zz)
                  refine g_iconst 3 C dL_law_388 (by decide) ?_
                  refine g_goto 393 C dL_law_389 (by decide) ?_
                  refine g_iload 0 C rfl dL_law_393 ?_
                  refine g_aload_n 6 C rfl dL_law_395 rfl ?_
                  refine g_aload 7 C rfl dL_law_396 ?_
                  refine g_aload 8 C rfl dL_law_398 ?_
                  refine g_aload 9 C rfl dL_law_400 ?_
                  refine g_aload 10 C rfl dL_law_402 ?_
                  refine g_aload 12 C rfl dL_law_404 ?_
                  obtain ⟨σ1, τ1, n1, hn1, hN1, hR1, hM⟩ := m_pa l D cI cJ h g σ τ T hst hN hR (((cellV L xs n) >>> (5 &&& 31)))
                  refine g_bB (na := 9) (av := [.ref (h 0), .int (3), .int ((cellV L xs n) >>> (5 &&& 31)), .ref (g 1), .ref (g 2), .ref (g 3), .ref (g 4), .ref (g 5), .ref (g 7)]) (hM) C gL_law_L_mixes rfl (by decide +kernel) rfl ⟨Nat.le_of_ble_eq_true rfl, Nat.le_of_ble_eq_true rfl⟩ rfl (Nat.le_of_ble_eq_true rfl) ⟨(by show (21 + n) + n1 ≤ 167; omega), (by show (1519 + 6 * n) + 6 * n1 ≤ 2655; omega)⟩ dL_law_406 ?_
                  refine g_w (wB cI h g σ1 τ1) rfl ?_
                  refine g_istore [(10, .int (1)), (15, .int ((cellV L xs n) >>> (5 &&& 31))), (14, .int (nI (a))), (13, .int (cellV L xs n)), (0, .ref (bs)), (1, .ref (h 0)), (2, .ref (g 0)), (3, .ref (g 1)), (4, .ref (g 2)), (5, .ref (g 3)), (6, .ref (g 4)), (7, .ref (g 5)), (8, .ref (g 6)), (9, .ref (g 7)), (11, .int (nI (T))), (12, .int (nI (n)))] C dL_law_409 (by decide) rfl ?_
                  refine g_goto 522 C dL_law_411 (by decide) ?_
                  refine g_iload 0 C rfl dL_law_522 ?_
                  refine g_if_eq 554 C dL_law_524 (by decide) (fun q => absurd q (by decide)) (fun _ => ?_)
                  refine g_aload_n 5 C rfl dL_law_527 rfl ?_
                  refine g_iload 1 C rfl dL_law_528 ?_
                  refine g_iconst 1 C dL_law_530 (by decide) ?_
                  refine g_ishr C dL_law_531 ?_
                  refine g_aload_n 6 C rfl dL_law_532 rfl ?_
                  refine g_aload_n 7 C rfl dL_law_533 rfl ?_
                  refine g_aload 8 C rfl dL_law_534 ?_
                  refine g_aload 9 C rfl dL_law_536 ?_
                  refine g_aload 10 C rfl dL_law_538 ?_
                  refine g_aload 11 C rfl dL_law_540 ?_
                  refine g_aload 12 C rfl dL_law_542 ?_
                  refine g_bB (na := 9) (av := [.ref (h 0), .int (((cellV L xs n) >>> (5 &&& 31)) >>> (1 &&& 31)), .ref (g 0), .ref (g 1), .ref (g 2), .ref (g 3), .ref (g 4), .ref (g 5), .ref (g 6)]) (c_same l D cI cJ hst h g σ1 τ1 hN1.1 T (by omega) hN1 hR1 ((((cellV L xs n) >>> (5 &&& 31)) >>> (1 &&& 31)))) C gL_law_L_same rfl (by decide +kernel) rfl ⟨Nat.le_of_ble_eq_true rfl, Nat.le_of_ble_eq_true rfl⟩ rfl (Nat.le_of_ble_eq_true rfl) ⟨(by show ((21 + n) + n1) + 0 ≤ 167; omega), (by show ((1519 + 6 * n) + 6 * n1) + 6 * 0 ≤ 2655; omega)⟩ dL_law_544 ?_
                  refine g_if_eq 554 C dL_law_547 (by decide) (fun q => absurd q (by decide)) (fun _ => ?_)
                  refine g_iconst 1 C dL_law_550 (by decide) ?_
                  refine g_goto 555 C dL_law_551 (by decide) ?_
                  refine g_istore [(10, .int (1)), (15, .int ((cellV L xs n) >>> (5 &&& 31))), (14, .int (nI (a))), (13, .int (cellV L xs n)), (0, .ref (bs)), (1, .ref (h 0)), (2, .ref (g 0)), (3, .ref (g 1)), (4, .ref (g 2)), (5, .ref (g 3)), (6, .ref (g 4)), (7, .ref (g 5)), (8, .ref (g 6)), (9, .ref (g 7)), (11, .int (nI (T))), (12, .int (nI (n)))] C dL_law_555 (by decide) rfl ?_
                  refine g_iincN 15 n 1 [(12, .int (nI (n + 1))), (10, .int (1)), (15, .int ((cellV L xs n) >>> (5 &&& 31))), (14, .int (nI (a))), (13, .int (cellV L xs n)), (0, .ref (bs)), (1, .ref (h 0)), (2, .ref (g 0)), (3, .ref (g 1)), (4, .ref (g 2)), (5, .ref (g 3)), (6, .ref (g 4)), (7, .ref (g 5)), (8, .ref (g 6)), (9, .ref (g 7)), (11, .int (nI (T)))] C dL_law_557 rfl (by decide) (by decide) rfl ?_
                  refine g_goto 305 C dL_law_560 (by decide) ?_
                  refine g_lv [5, 6, 7, 8, 9, 10, 11, 12, 13, 14, 1, 15, 0] [(0, .ref (bs)), (1, .ref (h 0)), (2, .ref (g 0)), (3, .ref (g 1)), (4, .ref (g 2)), (5, .ref (g 3)), (6, .ref (g 4)), (7, .ref (g 5)), (8, .ref (g 6)), (9, .ref (g 7)), (10, .int (1)), (11, .int (nI (T))), (12, .int (nI (n + 1)))] rfl ?_
                  refine g_widen (k' := 21 + (n + 1)) (j' := 1519 + 6 * (n + 1)) (by omega) (by omega) ?_
                  exact ih_305 (n + 1) T σ1 τ1 (by omega) (by omega) hN1 hR1 (by omega)
              ·
                have d_374_9 : a = 10 := (nI_eq (a := a) (b := 10) (by omega) (by omega)).mp c_374_9
                refine g_iconst 2 C dL_law_377 (by decide) ?_
                refine g_goto 393 C dL_law_378 (by decide) ?_
                refine g_iload 0 C rfl dL_law_393 ?_
                refine g_aload_n 6 C rfl dL_law_395 rfl ?_
                refine g_aload 7 C rfl dL_law_396 ?_
                refine g_aload 8 C rfl dL_law_398 ?_
                refine g_aload 9 C rfl dL_law_400 ?_
                refine g_aload 10 C rfl dL_law_402 ?_
                refine g_aload 12 C rfl dL_law_404 ?_
                obtain ⟨σ1, τ1, n1, hn1, hN1, hR1, hM⟩ := m_sc l D cI cJ h g σ τ T hst hN hR (((cellV L xs n) >>> (5 &&& 31)))
                refine g_bB (na := 9) (av := [.ref (h 0), .int (2), .int ((cellV L xs n) >>> (5 &&& 31)), .ref (g 1), .ref (g 2), .ref (g 3), .ref (g 4), .ref (g 5), .ref (g 7)]) (hM) C gL_law_L_mixes rfl (by decide +kernel) rfl ⟨Nat.le_of_ble_eq_true rfl, Nat.le_of_ble_eq_true rfl⟩ rfl (Nat.le_of_ble_eq_true rfl) ⟨(by show (21 + n) + n1 ≤ 167; omega), (by show (1519 + 6 * n) + 6 * n1 ≤ 2655; omega)⟩ dL_law_406 ?_
                refine g_w (wB cI h g σ1 τ1) rfl ?_
                refine g_istore [(10, .int (1)), (15, .int ((cellV L xs n) >>> (5 &&& 31))), (14, .int (nI (a))), (13, .int (cellV L xs n)), (0, .ref (bs)), (1, .ref (h 0)), (2, .ref (g 0)), (3, .ref (g 1)), (4, .ref (g 2)), (5, .ref (g 3)), (6, .ref (g 4)), (7, .ref (g 5)), (8, .ref (g 6)), (9, .ref (g 7)), (11, .int (nI (T))), (12, .int (nI (n)))] C dL_law_409 (by decide) rfl ?_
                refine g_goto 522 C dL_law_411 (by decide) ?_
                refine g_iload 0 C rfl dL_law_522 ?_
                refine g_if_eq 554 C dL_law_524 (by decide) (fun q => absurd q (by decide)) (fun _ => ?_)
                refine g_aload_n 5 C rfl dL_law_527 rfl ?_
                refine g_iload 1 C rfl dL_law_528 ?_
                refine g_iconst 1 C dL_law_530 (by decide) ?_
                refine g_ishr C dL_law_531 ?_
                refine g_aload_n 6 C rfl dL_law_532 rfl ?_
                refine g_aload_n 7 C rfl dL_law_533 rfl ?_
                refine g_aload 8 C rfl dL_law_534 ?_
                refine g_aload 9 C rfl dL_law_536 ?_
                refine g_aload 10 C rfl dL_law_538 ?_
                refine g_aload 11 C rfl dL_law_540 ?_
                refine g_aload 12 C rfl dL_law_542 ?_
                refine g_bB (na := 9) (av := [.ref (h 0), .int (((cellV L xs n) >>> (5 &&& 31)) >>> (1 &&& 31)), .ref (g 0), .ref (g 1), .ref (g 2), .ref (g 3), .ref (g 4), .ref (g 5), .ref (g 6)]) (c_same l D cI cJ hst h g σ1 τ1 hN1.1 T (by omega) hN1 hR1 ((((cellV L xs n) >>> (5 &&& 31)) >>> (1 &&& 31)))) C gL_law_L_same rfl (by decide +kernel) rfl ⟨Nat.le_of_ble_eq_true rfl, Nat.le_of_ble_eq_true rfl⟩ rfl (Nat.le_of_ble_eq_true rfl) ⟨(by show ((21 + n) + n1) + 0 ≤ 167; omega), (by show ((1519 + 6 * n) + 6 * n1) + 6 * 0 ≤ 2655; omega)⟩ dL_law_544 ?_
                refine g_if_eq 554 C dL_law_547 (by decide) (fun q => absurd q (by decide)) (fun _ => ?_)
                refine g_iconst 1 C dL_law_550 (by decide) ?_
                refine g_goto 555 C dL_law_551 (by decide) ?_
                refine g_istore [(10, .int (1)), (15, .int ((cellV L xs n) >>> (5 &&& 31))), (14, .int (nI (a))), (13, .int (cellV L xs n)), (0, .ref (bs)), (1, .ref (h 0)), (2, .ref (g 0)), (3, .ref (g 1)), (4, .ref (g 2)), (5, .ref (g 3)), (6, .ref (g 4)), (7, .ref (g 5)), (8, .ref (g 6)), (9, .ref (g 7)), (11, .int (nI (T))), (12, .int (nI (n)))] C dL_law_555 (by decide) rfl ?_
                refine g_iincN 15 n 1 [(12, .int (nI (n + 1))), (10, .int (1)), (15, .int ((cellV L xs n) >>> (5 &&& 31))), (14, .int (nI (a))), (13, .int (cellV L xs n)), (0, .ref (bs)), (1, .ref (h 0)), (2, .ref (g 0)), (3, .ref (g 1)), (4, .ref (g 2)), (5, .ref (g 3)), (6, .ref (g 4)), (7, .ref (g 5)), (8, .ref (g 6)), (9, .ref (g 7)), (11, .int (nI (T)))] C dL_law_557 rfl (by decide) (by decide) rfl ?_
                refine g_goto 305 C dL_law_560 (by decide) ?_
                refine g_lv [5, 6, 7, 8, 9, 10, 11, 12, 13, 14, 1, 15, 0] [(0, .ref (bs)), (1, .ref (h 0)), (2, .ref (g 0)), (3, .ref (g 1)), (4, .ref (g 2)), (5, .ref (g 3)), (6, .ref (g 4)), (7, .ref (g 5)), (8, .ref (g 6)), (9, .ref (g 7)), (10, .int (1)), (11, .int (nI (T))), (12, .int (nI (n + 1)))] rfl ?_
                refine g_widen (k' := 21 + (n + 1)) (j' := 1519 + 6 * (n + 1)) (by omega) (by omega) ?_
                exact ih_305 (n + 1) T σ1 τ1 (by omega) (by omega) hN1 hR1 (by omega)
            ·
              have d_363_8 : ¬ 10 ≤ a := fun zz => c_363_8 ((nI_leI (a := 10) (b := a) (by omega) (by omega)).mpr zz)
              refine g_iconst 1 C dL_law_366 (by decide) ?_
              refine g_goto 393 C dL_law_367 (by decide) ?_
              refine g_iload 0 C rfl dL_law_393 ?_
              refine g_aload_n 6 C rfl dL_law_395 rfl ?_
              refine g_aload 7 C rfl dL_law_396 ?_
              refine g_aload 8 C rfl dL_law_398 ?_
              refine g_aload 9 C rfl dL_law_400 ?_
              refine g_aload 10 C rfl dL_law_402 ?_
              refine g_aload 12 C rfl dL_law_404 ?_
              obtain ⟨σ1, τ1, n1, hn1, hN1, hR1, hM⟩ := m_po l D cI cJ h g σ τ T hst hN hR (((cellV L xs n) >>> (5 &&& 31)))
              refine g_bB (na := 9) (av := [.ref (h 0), .int (1), .int ((cellV L xs n) >>> (5 &&& 31)), .ref (g 1), .ref (g 2), .ref (g 3), .ref (g 4), .ref (g 5), .ref (g 7)]) (hM) C gL_law_L_mixes rfl (by decide +kernel) rfl ⟨Nat.le_of_ble_eq_true rfl, Nat.le_of_ble_eq_true rfl⟩ rfl (Nat.le_of_ble_eq_true rfl) ⟨(by show (21 + n) + n1 ≤ 167; omega), (by show (1519 + 6 * n) + 6 * n1 ≤ 2655; omega)⟩ dL_law_406 ?_
              refine g_w (wB cI h g σ1 τ1) rfl ?_
              refine g_istore [(10, .int (1)), (15, .int ((cellV L xs n) >>> (5 &&& 31))), (14, .int (nI (a))), (13, .int (cellV L xs n)), (0, .ref (bs)), (1, .ref (h 0)), (2, .ref (g 0)), (3, .ref (g 1)), (4, .ref (g 2)), (5, .ref (g 3)), (6, .ref (g 4)), (7, .ref (g 5)), (8, .ref (g 6)), (9, .ref (g 7)), (11, .int (nI (T))), (12, .int (nI (n)))] C dL_law_409 (by decide) rfl ?_
              refine g_goto 522 C dL_law_411 (by decide) ?_
              refine g_iload 0 C rfl dL_law_522 ?_
              refine g_if_eq 554 C dL_law_524 (by decide) (fun q => absurd q (by decide)) (fun _ => ?_)
              refine g_aload_n 5 C rfl dL_law_527 rfl ?_
              refine g_iload 1 C rfl dL_law_528 ?_
              refine g_iconst 1 C dL_law_530 (by decide) ?_
              refine g_ishr C dL_law_531 ?_
              refine g_aload_n 6 C rfl dL_law_532 rfl ?_
              refine g_aload_n 7 C rfl dL_law_533 rfl ?_
              refine g_aload 8 C rfl dL_law_534 ?_
              refine g_aload 9 C rfl dL_law_536 ?_
              refine g_aload 10 C rfl dL_law_538 ?_
              refine g_aload 11 C rfl dL_law_540 ?_
              refine g_aload 12 C rfl dL_law_542 ?_
              refine g_bB (na := 9) (av := [.ref (h 0), .int (((cellV L xs n) >>> (5 &&& 31)) >>> (1 &&& 31)), .ref (g 0), .ref (g 1), .ref (g 2), .ref (g 3), .ref (g 4), .ref (g 5), .ref (g 6)]) (c_same l D cI cJ hst h g σ1 τ1 hN1.1 T (by omega) hN1 hR1 ((((cellV L xs n) >>> (5 &&& 31)) >>> (1 &&& 31)))) C gL_law_L_same rfl (by decide +kernel) rfl ⟨Nat.le_of_ble_eq_true rfl, Nat.le_of_ble_eq_true rfl⟩ rfl (Nat.le_of_ble_eq_true rfl) ⟨(by show ((21 + n) + n1) + 0 ≤ 167; omega), (by show ((1519 + 6 * n) + 6 * n1) + 6 * 0 ≤ 2655; omega)⟩ dL_law_544 ?_
              refine g_if_eq 554 C dL_law_547 (by decide) (fun q => absurd q (by decide)) (fun _ => ?_)
              refine g_iconst 1 C dL_law_550 (by decide) ?_
              refine g_goto 555 C dL_law_551 (by decide) ?_
              refine g_istore [(10, .int (1)), (15, .int ((cellV L xs n) >>> (5 &&& 31))), (14, .int (nI (a))), (13, .int (cellV L xs n)), (0, .ref (bs)), (1, .ref (h 0)), (2, .ref (g 0)), (3, .ref (g 1)), (4, .ref (g 2)), (5, .ref (g 3)), (6, .ref (g 4)), (7, .ref (g 5)), (8, .ref (g 6)), (9, .ref (g 7)), (11, .int (nI (T))), (12, .int (nI (n)))] C dL_law_555 (by decide) rfl ?_
              refine g_iincN 15 n 1 [(12, .int (nI (n + 1))), (10, .int (1)), (15, .int ((cellV L xs n) >>> (5 &&& 31))), (14, .int (nI (a))), (13, .int (cellV L xs n)), (0, .ref (bs)), (1, .ref (h 0)), (2, .ref (g 0)), (3, .ref (g 1)), (4, .ref (g 2)), (5, .ref (g 3)), (6, .ref (g 4)), (7, .ref (g 5)), (8, .ref (g 6)), (9, .ref (g 7)), (11, .int (nI (T)))] C dL_law_557 rfl (by decide) (by decide) rfl ?_
              refine g_goto 305 C dL_law_560 (by decide) ?_
              refine g_lv [5, 6, 7, 8, 9, 10, 11, 12, 13, 14, 1, 15, 0] [(0, .ref (bs)), (1, .ref (h 0)), (2, .ref (g 0)), (3, .ref (g 1)), (4, .ref (g 2)), (5, .ref (g 3)), (6, .ref (g 4)), (7, .ref (g 5)), (8, .ref (g 6)), (9, .ref (g 7)), (10, .int (1)), (11, .int (nI (T))), (12, .int (nI (n + 1)))] rfl ?_
              refine g_widen (k' := 21 + (n + 1)) (j' := 1519 + 6 * (n + 1)) (by omega) (by omega) ?_
              exact ih_305 (n + 1) T σ1 τ1 (by omega) (by omega) hN1 hR1 (by omega)
          ·
            have d_352_7 : ¬ 7 ≤ a := fun zz => c_352_7 ((nI_leI (a := 7) (b := a) (by omega) (by omega)).mpr zz)
            refine g_iconst 0 C dL_law_355 (by decide) ?_
            refine g_goto 393 C dL_law_356 (by decide) ?_
            refine g_iload 0 C rfl dL_law_393 ?_
            refine g_aload_n 6 C rfl dL_law_395 rfl ?_
            refine g_aload 7 C rfl dL_law_396 ?_
            refine g_aload 8 C rfl dL_law_398 ?_
            refine g_aload 9 C rfl dL_law_400 ?_
            refine g_aload 10 C rfl dL_law_402 ?_
            refine g_aload 12 C rfl dL_law_404 ?_
            obtain ⟨σ1, τ1, n1, hn1, hN1, hR1, hM⟩ := m_sq l D cI cJ h g σ τ T hst hN hR (((cellV L xs n) >>> (5 &&& 31)))
            refine g_bB (na := 9) (av := [.ref (h 0), .int (0), .int ((cellV L xs n) >>> (5 &&& 31)), .ref (g 1), .ref (g 2), .ref (g 3), .ref (g 4), .ref (g 5), .ref (g 7)]) (hM) C gL_law_L_mixes rfl (by decide +kernel) rfl ⟨Nat.le_of_ble_eq_true rfl, Nat.le_of_ble_eq_true rfl⟩ rfl (Nat.le_of_ble_eq_true rfl) ⟨(by show (21 + n) + n1 ≤ 167; omega), (by show (1519 + 6 * n) + 6 * n1 ≤ 2655; omega)⟩ dL_law_406 ?_
            refine g_w (wB cI h g σ1 τ1) rfl ?_
            refine g_istore [(10, .int (1)), (15, .int ((cellV L xs n) >>> (5 &&& 31))), (14, .int (nI (a))), (13, .int (cellV L xs n)), (0, .ref (bs)), (1, .ref (h 0)), (2, .ref (g 0)), (3, .ref (g 1)), (4, .ref (g 2)), (5, .ref (g 3)), (6, .ref (g 4)), (7, .ref (g 5)), (8, .ref (g 6)), (9, .ref (g 7)), (11, .int (nI (T))), (12, .int (nI (n)))] C dL_law_409 (by decide) rfl ?_
            refine g_goto 522 C dL_law_411 (by decide) ?_
            refine g_iload 0 C rfl dL_law_522 ?_
            refine g_if_eq 554 C dL_law_524 (by decide) (fun q => absurd q (by decide)) (fun _ => ?_)
            refine g_aload_n 5 C rfl dL_law_527 rfl ?_
            refine g_iload 1 C rfl dL_law_528 ?_
            refine g_iconst 1 C dL_law_530 (by decide) ?_
            refine g_ishr C dL_law_531 ?_
            refine g_aload_n 6 C rfl dL_law_532 rfl ?_
            refine g_aload_n 7 C rfl dL_law_533 rfl ?_
            refine g_aload 8 C rfl dL_law_534 ?_
            refine g_aload 9 C rfl dL_law_536 ?_
            refine g_aload 10 C rfl dL_law_538 ?_
            refine g_aload 11 C rfl dL_law_540 ?_
            refine g_aload 12 C rfl dL_law_542 ?_
            refine g_bB (na := 9) (av := [.ref (h 0), .int (((cellV L xs n) >>> (5 &&& 31)) >>> (1 &&& 31)), .ref (g 0), .ref (g 1), .ref (g 2), .ref (g 3), .ref (g 4), .ref (g 5), .ref (g 6)]) (c_same l D cI cJ hst h g σ1 τ1 hN1.1 T (by omega) hN1 hR1 ((((cellV L xs n) >>> (5 &&& 31)) >>> (1 &&& 31)))) C gL_law_L_same rfl (by decide +kernel) rfl ⟨Nat.le_of_ble_eq_true rfl, Nat.le_of_ble_eq_true rfl⟩ rfl (Nat.le_of_ble_eq_true rfl) ⟨(by show ((21 + n) + n1) + 0 ≤ 167; omega), (by show ((1519 + 6 * n) + 6 * n1) + 6 * 0 ≤ 2655; omega)⟩ dL_law_544 ?_
            refine g_if_eq 554 C dL_law_547 (by decide) (fun q => absurd q (by decide)) (fun _ => ?_)
            refine g_iconst 1 C dL_law_550 (by decide) ?_
            refine g_goto 555 C dL_law_551 (by decide) ?_
            refine g_istore [(10, .int (1)), (15, .int ((cellV L xs n) >>> (5 &&& 31))), (14, .int (nI (a))), (13, .int (cellV L xs n)), (0, .ref (bs)), (1, .ref (h 0)), (2, .ref (g 0)), (3, .ref (g 1)), (4, .ref (g 2)), (5, .ref (g 3)), (6, .ref (g 4)), (7, .ref (g 5)), (8, .ref (g 6)), (9, .ref (g 7)), (11, .int (nI (T))), (12, .int (nI (n)))] C dL_law_555 (by decide) rfl ?_
            refine g_iincN 15 n 1 [(12, .int (nI (n + 1))), (10, .int (1)), (15, .int ((cellV L xs n) >>> (5 &&& 31))), (14, .int (nI (a))), (13, .int (cellV L xs n)), (0, .ref (bs)), (1, .ref (h 0)), (2, .ref (g 0)), (3, .ref (g 1)), (4, .ref (g 2)), (5, .ref (g 3)), (6, .ref (g 4)), (7, .ref (g 5)), (8, .ref (g 6)), (9, .ref (g 7)), (11, .int (nI (T)))] C dL_law_557 rfl (by decide) (by decide) rfl ?_
            refine g_goto 305 C dL_law_560 (by decide) ?_
            refine g_lv [5, 6, 7, 8, 9, 10, 11, 12, 13, 14, 1, 15, 0] [(0, .ref (bs)), (1, .ref (h 0)), (2, .ref (g 0)), (3, .ref (g 1)), (4, .ref (g 2)), (5, .ref (g 3)), (6, .ref (g 4)), (7, .ref (g 5)), (8, .ref (g 6)), (9, .ref (g 7)), (10, .int (1)), (11, .int (nI (T))), (12, .int (nI (n + 1)))] rfl ?_
            refine g_widen (k' := 21 + (n + 1)) (j' := 1519 + 6 * (n + 1)) (by omega) (by omega) ?_
            exact ih_305 (n + 1) T σ1 τ1 (by omega) (by omega) hN1 hR1 (by omega)
  exact loop_305 121 0 T σ τ (by omega) (by omega) hN0 hR0 (by omega)
set_option maxRecDepth 100000 in
set_option maxHeartbeats 4000000 in
theorem law_init {p : Program} {l : Launch} {e : Env} {s : State} {m : MethodId} {below : List Frame} {meth : Method} {c : Code} {D : va_G} {cI cJ : ClassId} {bs L : Nat} {xs : Nat → Int32} {h g : Nat → Nat} (hst : l.stackTraces = false) (C : gC p s m #[Value.ref bs] meth c cL_law 18 RL wsL_law D (tyIJ cI cJ) (fun q : Nat => s.heap.size ≤ q)) (hr : meth.sig.returnType = ret) (hX : va_X bs L xs s s.heap) (hbl : bs < s.heap.size) (hL : L ≤ 260) (σ τ : gS) (hI0 : I1 0 σ τ) : G p l e room_1 s m #[Value.ref bs] below meth c D (fun q : Nat => s.heap.size ≤ q) 18 21 1519 (lw_Z below #[Value.ref bs] s) (wB cI h g σ τ) [(0, .ref (bs)), (1, .ref (h 0)), (2, .ref (g 0)), (3, .ref (g 1)), (4, .ref (g 2)), (5, .ref (g 3)), (6, .ref (g 4)), (7, .ref (g 5)), (8, .ref (g 6)), (9, .ref (g 7))] 54 [] := by
  have hbA : ¬ (fun q : Nat => s.heap.size ≤ q) bs := Nat.not_le.mpr hbl
  refine g_iconst 1 C dL_law_54 (by decide) ?_
  refine g_istore [(10, .int (1)), (0, .ref (bs)), (1, .ref (h 0)), (2, .ref (g 0)), (3, .ref (g 1)), (4, .ref (g 2)), (5, .ref (g 3)), (6, .ref (g 4)), (7, .ref (g 5)), (8, .ref (g 6)), (9, .ref (g 7))] C dL_law_55 (by decide) rfl ?_
  refine g_iconst 0 C dL_law_57 (by decide) ?_
  refine g_istore [(11, .int (0)), (10, .int (1)), (0, .ref (bs)), (1, .ref (h 0)), (2, .ref (g 0)), (3, .ref (g 1)), (4, .ref (g 2)), (5, .ref (g 3)), (6, .ref (g 4)), (7, .ref (g 5)), (8, .ref (g 6)), (9, .ref (g 7))] C dL_law_58 (by decide) rfl ?_
  have loop_60 : ∀ (fu : Nat) (i : Nat) (σ τ : gS), i ≤ 4 → I1 i σ τ → 5 ≤ i + fu → G p l e room_1 s m #[Value.ref bs] below meth c D (fun q : Nat => s.heap.size ≤ q) 18 21 1519 (lw_Z below #[Value.ref bs] s) (wB cI h g σ τ) [(0, .ref (bs)), (1, .ref (h 0)), (2, .ref (g 0)), (3, .ref (g 1)), (4, .ref (g 2)), (5, .ref (g 3)), (6, .ref (g 4)), (7, .ref (g 5)), (8, .ref (g 6)), (9, .ref (g 7)), (10, .int (1)), (11, .int (nI (i)))] 60 [] := by
    intro fu
    induction fu with
    | zero => intro i σ τ hi hI hf; exact absurd True.intro (by omega)
    | succ fu ih_60 =>
      intro i σ τ hi hI hf
      refine g_iload 11 C rfl dL_law_60 ?_
      refine g_iconst 4 C dL_law_62 (by decide) ?_
      refine g_icmp_ge 204 C dL_law_63 (by decide) (fun c_63_1 => ?_) (fun c_63_1 => ?_)
      ·
        have d_63_1 : 4 ≤ i := (nI_leI (a := 4) (b := i) (by omega) (by omega)).mp c_63_1
        obtain rfl : i = 4 := by omega
        refine g_iconst 0 C dL_law_204 (by decide) ?_
        refine g_istore [(11, .int (0)), (0, .ref (bs)), (1, .ref (h 0)), (2, .ref (g 0)), (3, .ref (g 1)), (4, .ref (g 2)), (5, .ref (g 3)), (6, .ref (g 4)), (7, .ref (g 5)), (8, .ref (g 6)), (9, .ref (g 7)), (10, .int (1))] C dL_law_205 (by decide) rfl ?_
        have loop_207 : ∀ (fu : Nat) (u : Nat) (σ τ : gS), u ≤ 6 → I2 u σ τ → 7 ≤ u + fu → G p l e room_1 s m #[Value.ref bs] below meth c D (fun q : Nat => s.heap.size ≤ q) 18 21 1519 (lw_Z below #[Value.ref bs] s) (wB cI h g σ τ) [(0, .ref (bs)), (1, .ref (h 0)), (2, .ref (g 0)), (3, .ref (g 1)), (4, .ref (g 2)), (5, .ref (g 3)), (6, .ref (g 4)), (7, .ref (g 5)), (8, .ref (g 6)), (9, .ref (g 7)), (10, .int (1)), (11, .int (nI (u)))] 207 [] := by
          intro fu
          induction fu with
          | zero => intro u σ τ hu hJ hfu; exact absurd True.intro (by omega)
          | succ fu ih_207 =>
            intro u σ τ hu hJ hfu
            refine g_iload 11 C rfl dL_law_207 ?_
            refine g_bipush 6 C dL_law_209 (by decide) ?_
            refine g_icmp_ge 299 C dL_law_211 (by decide) (fun c_211_2 => ?_) (fun c_211_2 => ?_)
            ·
              have d_211_2 : 6 ≤ u := (nI_leI (a := 6) (b := u) (by omega) (by omega)).mp c_211_2
              obtain rfl : u = 6 := by omega
              refine g_iconst 0 C dL_law_299 (by decide) ?_
              refine g_istore [(11, .int (0)), (0, .ref (bs)), (1, .ref (h 0)), (2, .ref (g 0)), (3, .ref (g 1)), (4, .ref (g 2)), (5, .ref (g 3)), (6, .ref (g 4)), (7, .ref (g 5)), (8, .ref (g 6)), (9, .ref (g 7)), (10, .int (1))] C dL_law_300 (by decide) rfl ?_
              refine g_iconst 0 C dL_law_302 (by decide) ?_
              refine g_istore [(12, .int (0)), (11, .int (0)), (0, .ref (bs)), (1, .ref (h 0)), (2, .ref (g 0)), (3, .ref (g 1)), (4, .ref (g 2)), (5, .ref (g 3)), (6, .ref (g 4)), (7, .ref (g 5)), (8, .ref (g 6)), (9, .ref (g 7)), (10, .int (1))] C dL_law_303 (by decide) rfl ?_
              refine g_lv [2, 3, 4, 5, 6, 7, 8, 9, 10, 11, 12, 1, 0] [(0, .ref (bs)), (1, .ref (h 0)), (2, .ref (g 0)), (3, .ref (g 1)), (4, .ref (g 2)), (5, .ref (g 3)), (6, .ref (g 4)), (7, .ref (g 5)), (8, .ref (g 6)), (9, .ref (g 7)), (10, .int (1)), (11, .int (0)), (12, .int (0))] rfl ?_
              exact law_turns hst C hr hX hbl hL 0 σ τ (Nat.le_refl 0) (I2_end hJ).1 (I2_end hJ).2
            ·
              have d_211_2 : ¬ 6 ≤ u := fun zz => c_211_2 ((nI_leI (a := 6) (b := u) (by omega) (by omega)).mpr zz)
              refine g_aload_n 0 C rfl dL_law_214 rfl ?_
              refine g_sipush 620 C dL_law_215 (by decide) ?_
              refine g_iload 11 C rfl dL_law_218 ?_
              refine g_iaddN 620 u C dL_law_220 ?_
              refine g_bX (na := 2) (av := [.ref (bs), .int (nI (620 + u))]) (c_cell l D cI cJ bs L xs (620 + u) (by omega) hL) hX hbl hbA C gL_law_L_cell rfl (by decide +kernel) rfl ⟨Nat.le_of_ble_eq_true rfl, Nat.le_of_ble_eq_true rfl⟩ rfl (Nat.le_of_ble_eq_true rfl) ⟨(by show 21 ≤ 167; omega), (by show 1519 ≤ 2655; omega)⟩ dL_law_221 ?_
              refine g_istore [(12, .int (cellV L xs (620 + u))), (0, .ref (bs)), (1, .ref (h 0)), (2, .ref (g 0)), (3, .ref (g 1)), (4, .ref (g 2)), (5, .ref (g 3)), (6, .ref (g 4)), (7, .ref (g 5)), (8, .ref (g 6)), (9, .ref (g 7)), (10, .int (1)), (11, .int (nI (u)))] C dL_law_224 (by decide) rfl ?_
              refine g_aload_n 4 C rfl dL_law_226 rfl ?_
              refine g_iconst 3 C dL_law_227 (by decide) ?_
              refine g_iload 12 C rfl dL_law_228 ?_
              refine g_imulN 3 u C dL_law_230 ?_
              refine g_iload 0 C rfl dL_law_231 ?_
              refine g_iconst 4 C dL_law_233 (by decide) ?_
              obtain ⟨p0, ep0, hp0⟩ := low_x ((cellV L xs (620 + u))) (n := 4) (by decide)
              refine g_bS (na := 2) (av := [.int (cellV L xs (620 + u)), .int (4)]) (c_low l D cI cJ _ ((cellV L xs (620 + u))) 4 p0 (by decide) (by decide) ep0) C gL_law_L_low rfl (by decide +kernel) rfl ⟨Nat.le_of_ble_eq_true rfl, Nat.le_of_ble_eq_true rfl⟩ rfl (Nat.le_of_ble_eq_true rfl) ⟨(by show 21 ≤ 167; omega), (by show 1519 ≤ 2655; omega)⟩ dL_law_234 ?_
              refine g_iastN (cA := cI) (n := 18) (a := g 1) (f := τ.2 1) (x := nI (p0)) (3 * u) 14 0 (wB cI h g σ (sA τ 1 (upd (τ.2 1) (3 * u) (nI (p0))))) C rfl rfl (by omega) (by decide) rfl dL_law_237 ?_
              refine g_aload_n 4 C rfl dL_law_238 rfl ?_
              refine g_iconst 3 C dL_law_239 (by decide) ?_
              refine g_iload 12 C rfl dL_law_240 ?_
              refine g_imulN 3 u C dL_law_242 ?_
              refine g_iconst 1 C dL_law_243 (by decide) ?_
              refine g_iaddN (3 * u) 1 C dL_law_244 ?_
              refine g_iconst 1 C dL_law_245 (by decide) ?_
              refine g_iload 0 C rfl dL_law_246 ?_
              refine g_iconst 3 C dL_law_248 (by decide) ?_
              refine g_ishr C dL_law_249 ?_
              refine g_sipush 300 C dL_law_250 (by decide) ?_
              obtain ⟨s0, es0, hs0⟩ := low_x (((cellV L xs (620 + u)) >>> (3 &&& 31))) (n := 300) (by decide)
              refine g_bS (na := 2) (av := [.int ((cellV L xs (620 + u)) >>> (3 &&& 31)), .int (300)]) (c_low l D cI cJ _ (((cellV L xs (620 + u)) >>> (3 &&& 31))) 300 s0 (by decide) (by decide) es0) C gL_law_L_low rfl (by decide +kernel) rfl ⟨Nat.le_of_ble_eq_true rfl, Nat.le_of_ble_eq_true rfl⟩ rfl (Nat.le_of_ble_eq_true rfl) ⟨(by show 21 ≤ 167; omega), (by show 1519 ≤ 2655; omega)⟩ dL_law_253 ?_
              refine g_iaddN 1 s0 C dL_law_256 ?_
              refine g_iastN (cA := cI) (n := 18) (a := g 1) (f := upd (τ.2 1) (3 * u) (nI (p0))) (x := nI (1 + s0)) ((3 * u) + 1) 14 0 (wB cI h g σ (sA τ 1 (upd (upd (τ.2 1) (3 * u) (nI (p0))) ((3 * u) + 1) (nI (1 + s0))))) C rfl rfl (by omega) (by decide) rfl dL_law_257 ?_
              refine g_iload 11 C rfl dL_law_258 ?_
              refine g_if_eq 290 C dL_law_260 (by decide) (fun q => absurd q (by decide)) (fun _ => ?_)
              refine g_aload_n 2 C rfl dL_law_263 rfl ?_
              refine g_aload_n 4 C rfl dL_law_264 rfl ?_
              refine g_iconst 3 C dL_law_265 (by decide) ?_
              refine g_iload 12 C rfl dL_law_266 ?_
              refine g_imulN 3 u C dL_law_268 ?_
              refine g_ialdN (cA := cI) (n := 18) (a := g 1) (f := upd (upd (τ.2 1) (3 * u) (nI (p0))) ((3 * u) + 1) (nI (1 + s0))) (3 * u) 14 0 C rfl rfl (by omega) (by decide) dL_law_269 ?_
              refine g_is (nI (p0)) (by rw [upd_n (by omega), upd_s]) ?_
              refine g_aload_n 4 C rfl dL_law_270 rfl ?_
              refine g_iconst 3 C dL_law_271 (by decide) ?_
              refine g_iload 12 C rfl dL_law_272 ?_
              refine g_imulN 3 u C dL_law_274 ?_
              refine g_iconst 1 C dL_law_275 (by decide) ?_
              refine g_iaddN (3 * u) 1 C dL_law_276 ?_
              refine g_ialdN (cA := cI) (n := 18) (a := g 1) (f := upd (upd (τ.2 1) (3 * u) (nI (p0))) ((3 * u) + 1) (nI (1 + s0))) ((3 * u) + 1) 14 0 C rfl rfl (by omega) (by decide) dL_law_277 ?_
              refine g_is (nI (1 + s0)) pk_us ?_
              obtain ⟨k1, hJ'⟩ := I2_step hJ (by omega) hp0 hs0
              refine g_bV (na := 2) (As := [.int (nI (p0)), .int (nI (1 + s0))]) (c_tube l D cI cJ hst h σ 4 u 4 4 hJ.1 (nI p0) (nI (1 + s0)) 0 k1) C gL_law_X0_tube rfl (by decide +kernel) rfl ⟨Nat.le_of_ble_eq_true rfl, Nat.le_of_ble_eq_true rfl⟩ rfl (Nat.le_of_ble_eq_true rfl) ⟨(by show 21 + 0 ≤ 167; omega), (by show 1519 + 6 * 0 ≤ 2655; omega)⟩ dL_law_278 ?_
              refine g_w (wB cI h g (s_tube σ u (nI p0) (nI (1 + s0))) (sA τ 1 (upd (upd (τ.2 1) (3 * u) (nI (p0))) ((3 * u) + 1) (nI (1 + s0))))) rfl ?_
              refine g_iload 12 C rfl dL_law_281 ?_
              refine g_icmp_ne 290 C dL_law_283 (by decide) (fun q => absurd rfl q) (fun _ => ?_)
              refine g_iconst 1 C dL_law_286 (by decide) ?_
              refine g_goto 291 C dL_law_287 (by decide) ?_
              refine g_istore [(10, .int (1)), (12, .int (cellV L xs (620 + u))), (0, .ref (bs)), (1, .ref (h 0)), (2, .ref (g 0)), (3, .ref (g 1)), (4, .ref (g 2)), (5, .ref (g 3)), (6, .ref (g 4)), (7, .ref (g 5)), (8, .ref (g 6)), (9, .ref (g 7)), (11, .int (nI (u)))] C dL_law_291 (by decide) rfl ?_
              refine g_iincN 12 u 1 [(11, .int (nI (u + 1))), (10, .int (1)), (12, .int (cellV L xs (620 + u))), (0, .ref (bs)), (1, .ref (h 0)), (2, .ref (g 0)), (3, .ref (g 1)), (4, .ref (g 2)), (5, .ref (g 3)), (6, .ref (g 4)), (7, .ref (g 5)), (8, .ref (g 6)), (9, .ref (g 7))] C dL_law_293 rfl (by decide) (by decide) rfl ?_
              refine g_goto 207 C dL_law_296 (by decide) ?_
              refine g_lv [3, 4, 5, 6, 7, 8, 9, 10, 11, 12, 1, 0] [(0, .ref (bs)), (1, .ref (h 0)), (2, .ref (g 0)), (3, .ref (g 1)), (4, .ref (g 2)), (5, .ref (g 3)), (6, .ref (g 4)), (7, .ref (g 5)), (8, .ref (g 6)), (9, .ref (g 7)), (10, .int (1)), (11, .int (nI (u + 1)))] rfl ?_
              exact ih_207 (u + 1) (s_tube σ u (nI p0) (nI (1 + s0))) (sA τ 1 (upd (upd (τ.2 1) (3 * u) (nI p0)) (3 * u + 1) (nI (1 + s0)))) (by omega) hJ' (by omega)
        refine g_lv [1, 2, 3, 4, 5, 6, 7, 8, 9, 10, 11, 0] [(0, .ref (bs)), (1, .ref (h 0)), (2, .ref (g 0)), (3, .ref (g 1)), (4, .ref (g 2)), (5, .ref (g 3)), (6, .ref (g 4)), (7, .ref (g 5)), (8, .ref (g 6)), (9, .ref (g 7)), (10, .int (1)), (11, .int (0))] rfl ?_
        exact loop_207 7 0 σ τ (by omega) (I2_0 hI) (by omega)
      ·
        have d_63_1 : ¬ 4 ≤ i := fun zz => c_63_1 ((nI_leI (a := 4) (b := i) (by omega) (by omega)).mpr zz)
        refine g_aload_n 0 C rfl dL_law_66 rfl ?_
        refine g_sipush 600 C dL_law_67 (by decide) ?_
        refine g_iload 11 C rfl dL_law_70 ?_
        refine g_iaddN 600 i C dL_law_72 ?_
        refine g_bX (na := 2) (av := [.ref (bs), .int (nI (600 + i))]) (c_cell l D cI cJ bs L xs (600 + i) (by omega) hL) hX hbl hbA C gL_law_L_cell rfl (by decide +kernel) rfl ⟨Nat.le_of_ble_eq_true rfl, Nat.le_of_ble_eq_true rfl⟩ rfl (Nat.le_of_ble_eq_true rfl) ⟨(by show 21 ≤ 167; omega), (by show 1519 ≤ 2655; omega)⟩ dL_law_73 ?_
        refine g_istore [(12, .int (cellV L xs (600 + i))), (0, .ref (bs)), (1, .ref (h 0)), (2, .ref (g 0)), (3, .ref (g 1)), (4, .ref (g 2)), (5, .ref (g 3)), (6, .ref (g 4)), (7, .ref (g 5)), (8, .ref (g 6)), (9, .ref (g 7)), (10, .int (1)), (11, .int (nI (i)))] C dL_law_76 (by decide) rfl ?_
        refine g_aload_n 3 C rfl dL_law_78 rfl ?_
        refine g_iconst 3 C dL_law_79 (by decide) ?_
        refine g_iload 12 C rfl dL_law_80 ?_
        refine g_imulN 3 i C dL_law_82 ?_
        refine g_iload 0 C rfl dL_law_83 ?_
        refine g_sipush 256 C dL_law_85 (by decide) ?_
        obtain ⟨r0, er0, hr0⟩ := low_x ((cellV L xs (600 + i))) (n := 256) (by decide)
        refine g_bS (na := 2) (av := [.int (cellV L xs (600 + i)), .int (256)]) (c_low l D cI cJ _ ((cellV L xs (600 + i))) 256 r0 (by decide) (by decide) er0) C gL_law_L_low rfl (by decide +kernel) rfl ⟨Nat.le_of_ble_eq_true rfl, Nat.le_of_ble_eq_true rfl⟩ rfl (Nat.le_of_ble_eq_true rfl) ⟨(by show 21 ≤ 167; omega), (by show 1519 ≤ 2655; omega)⟩ dL_law_88 ?_
        refine g_iastN (cA := cI) (n := 12) (a := g 0) (f := τ.2 0) (x := nI (r0)) (3 * i) 13 0 (wB cI h g σ (sA τ 0 (upd (τ.2 0) (3 * i) (nI (r0))))) C rfl rfl (by omega) (by decide) rfl dL_law_91 ?_
        refine g_aload_n 3 C rfl dL_law_92 rfl ?_
        refine g_iconst 3 C dL_law_93 (by decide) ?_
        refine g_iload 12 C rfl dL_law_94 ?_
        refine g_imulN 3 i C dL_law_96 ?_
        refine g_iconst 1 C dL_law_97 (by decide) ?_
        refine g_iaddN (3 * i) 1 C dL_law_98 ?_
        refine g_iload 0 C rfl dL_law_99 ?_
        refine g_bipush 8 C dL_law_101 (by decide) ?_
        refine g_ishr C dL_law_103 ?_
        refine g_sipush 256 C dL_law_104 (by decide) ?_
        obtain ⟨g0, eg0, hg0⟩ := low_x (((cellV L xs (600 + i)) >>> (8 &&& 31))) (n := 256) (by decide)
        refine g_bS (na := 2) (av := [.int ((cellV L xs (600 + i)) >>> (8 &&& 31)), .int (256)]) (c_low l D cI cJ _ (((cellV L xs (600 + i)) >>> (8 &&& 31))) 256 g0 (by decide) (by decide) eg0) C gL_law_L_low rfl (by decide +kernel) rfl ⟨Nat.le_of_ble_eq_true rfl, Nat.le_of_ble_eq_true rfl⟩ rfl (Nat.le_of_ble_eq_true rfl) ⟨(by show 21 ≤ 167; omega), (by show 1519 ≤ 2655; omega)⟩ dL_law_107 ?_
        refine g_iastN (cA := cI) (n := 12) (a := g 0) (f := upd (τ.2 0) (3 * i) (nI (r0))) (x := nI (g0)) ((3 * i) + 1) 13 0 (wB cI h g σ (sA τ 0 (upd (upd (τ.2 0) (3 * i) (nI (r0))) ((3 * i) + 1) (nI (g0))))) C rfl rfl (by omega) (by decide) rfl dL_law_110 ?_
        refine g_aload_n 3 C rfl dL_law_111 rfl ?_
        refine g_iconst 3 C dL_law_112 (by decide) ?_
        refine g_iload 12 C rfl dL_law_113 ?_
        refine g_imulN 3 i C dL_law_115 ?_
        refine g_iconst 2 C dL_law_116 (by decide) ?_
        refine g_iaddN (3 * i) 2 C dL_law_117 ?_
        refine g_iload 0 C rfl dL_law_118 ?_
        refine g_bipush 16 C dL_law_120 (by decide) ?_
        refine g_ishr C dL_law_122 ?_
        refine g_sipush 256 C dL_law_123 (by decide) ?_
        obtain ⟨b0, eb0, hb0⟩ := low_x (((cellV L xs (600 + i)) >>> (16 &&& 31))) (n := 256) (by decide)
        refine g_bS (na := 2) (av := [.int ((cellV L xs (600 + i)) >>> (16 &&& 31)), .int (256)]) (c_low l D cI cJ _ (((cellV L xs (600 + i)) >>> (16 &&& 31))) 256 b0 (by decide) (by decide) eb0) C gL_law_L_low rfl (by decide +kernel) rfl ⟨Nat.le_of_ble_eq_true rfl, Nat.le_of_ble_eq_true rfl⟩ rfl (Nat.le_of_ble_eq_true rfl) ⟨(by show 21 ≤ 167; omega), (by show 1519 ≤ 2655; omega)⟩ dL_law_126 ?_
        refine g_iastN (cA := cI) (n := 12) (a := g 0) (f := upd (upd (τ.2 0) (3 * i) (nI (r0))) ((3 * i) + 1) (nI (g0))) (x := nI (b0)) ((3 * i) + 2) 13 0 (wB cI h g σ (sA τ 0 (upd (upd (upd (τ.2 0) (3 * i) (nI (r0))) ((3 * i) + 1) (nI (g0))) ((3 * i) + 2) (nI (b0))))) C rfl rfl (by omega) (by decide) rfl dL_law_129 ?_
        refine g_aload 9 C rfl dL_law_130 ?_
        refine g_iload 12 C rfl dL_law_132 ?_
        refine g_bipush 50 C dL_law_134 (by decide) ?_
        refine g_iastN (cA := cI) (n := 8) (a := g 6) (f := τ.2 6) (x := 50) i 19 0 (wB cI h g σ (sA (sA τ 0 (upd (upd (upd (τ.2 0) (3 * i) (nI (r0))) ((3 * i) + 1) (nI (g0))) ((3 * i) + 2) (nI (b0)))) 6 (upd (τ.2 6) i (50)))) C rfl rfl (by omega) (by decide) rfl dL_law_136 ?_
        refine g_iload 11 C rfl dL_law_137 ?_
        refine g_if_eq 195 C dL_law_139 (by decide) (fun q => absurd q (by decide)) (fun _ => ?_)
        refine g_aload_n 2 C rfl dL_law_142 rfl ?_
        refine g_aload_n 3 C rfl dL_law_143 rfl ?_
        refine g_iconst 3 C dL_law_144 (by decide) ?_
        refine g_iload 12 C rfl dL_law_145 ?_
        refine g_imulN 3 i C dL_law_147 ?_
        refine g_ialdN (cA := cI) (n := 12) (a := g 0) (f := upd (upd (upd (τ.2 0) (3 * i) (nI (r0))) ((3 * i) + 1) (nI (g0))) ((3 * i) + 2) (nI (b0))) (3 * i) 13 0 C rfl rfl (by omega) (by decide) dL_law_148 ?_
        refine g_is (nI (r0)) (by rw [upd_n (by omega), upd_n (by omega), upd_s]) ?_
        refine g_aload_n 3 C rfl dL_law_149 rfl ?_
        refine g_iconst 3 C dL_law_150 (by decide) ?_
        refine g_iload 12 C rfl dL_law_151 ?_
        refine g_imulN 3 i C dL_law_153 ?_
        refine g_iconst 1 C dL_law_154 (by decide) ?_
        refine g_iaddN (3 * i) 1 C dL_law_155 ?_
        refine g_ialdN (cA := cI) (n := 12) (a := g 0) (f := upd (upd (upd (τ.2 0) (3 * i) (nI (r0))) ((3 * i) + 1) (nI (g0))) ((3 * i) + 2) (nI (b0))) ((3 * i) + 1) 13 0 C rfl rfl (by omega) (by decide) dL_law_156 ?_
        refine g_is (nI (g0)) (by rw [upd_n (by omega), upd_s]) ?_
        refine g_aload_n 3 C rfl dL_law_157 rfl ?_
        refine g_iconst 3 C dL_law_158 (by decide) ?_
        refine g_iload 12 C rfl dL_law_159 ?_
        refine g_imulN 3 i C dL_law_161 ?_
        refine g_iconst 2 C dL_law_162 (by decide) ?_
        refine g_iaddN (3 * i) 2 C dL_law_163 ?_
        refine g_ialdN (cA := cI) (n := 12) (a := g 0) (f := upd (upd (upd (τ.2 0) (3 * i) (nI (r0))) ((3 * i) + 1) (nI (g0))) ((3 * i) + 2) (nI (b0))) ((3 * i) + 2) 13 0 C rfl rfl (by omega) (by decide) dL_law_164 ?_
        refine g_is (nI (b0)) pk_us ?_
        obtain ⟨k1, a1, k2, a2, k3, hI'⟩ := I1_step hI (by omega) hr0 hg0 hb0
        refine g_bV (na := 3) (As := [.int (nI (r0)), .int (nI (g0)), .int (nI (b0))]) (c_pigment l D cI cJ hst h σ i 0 i i hI.1 (nI r0) (nI g0) (nI b0) 0 k1) C gL_law_X0_pigment rfl (by decide +kernel) rfl ⟨Nat.le_of_ble_eq_true rfl, Nat.le_of_ble_eq_true rfl⟩ rfl (Nat.le_of_ble_eq_true rfl) ⟨(by show 21 + 0 ≤ 167; omega), (by show 1519 + 6 * 0 ≤ 2655; omega)⟩ dL_law_165 ?_
        refine g_w (wB cI h g (s_pigment σ i (nI r0) (nI g0) (nI b0)) (sA (sA τ 0 (upd (upd (upd (τ.2 0) (3 * i) (nI (r0))) ((3 * i) + 1) (nI (g0))) ((3 * i) + 2) (nI (b0)))) 6 (upd (τ.2 6) i (50)))) rfl ?_
        refine g_iload 12 C rfl dL_law_168 ?_
        refine g_icmp_ne 195 C dL_law_170 (by decide) (fun q => absurd rfl q) (fun _ => ?_)
        refine g_aload_n 2 C rfl dL_law_173 rfl ?_
        refine g_bV (na := 0) (As := []) (c_pot l D cI cJ hst h (s_pigment σ i (nI r0) (nI g0) (nI b0)) (i + 1) 0 i i a1 0 k2) C gL_law_X0_pot rfl (by decide +kernel) rfl ⟨Nat.le_of_ble_eq_true rfl, Nat.le_of_ble_eq_true rfl⟩ rfl (Nat.le_of_ble_eq_true rfl) ⟨(by show (21 + 0) + 0 ≤ 167; omega), (by show (1519 + 6 * 0) + 6 * 0 ≤ 2655; omega)⟩ dL_law_174 ?_
        refine g_w (wB cI h g (sS (s_pigment σ i (nI r0) (nI g0) (nI b0)) 2 (nI (i + 1))) (sA (sA τ 0 (upd (upd (upd (τ.2 0) (3 * i) (nI (r0))) ((3 * i) + 1) (nI (g0))) ((3 * i) + 2) (nI (b0)))) 6 (upd (τ.2 6) i (50)))) rfl ?_
        refine g_iload 12 C rfl dL_law_177 ?_
        refine g_icmp_ne 195 C dL_law_179 (by decide) (fun q => absurd rfl q) (fun _ => ?_)
        refine g_aload_n 2 C rfl dL_law_182 rfl ?_
        refine g_bV (na := 0) (As := []) (c_picture l D cI cJ hst h (sS (s_pigment σ i (nI r0) (nI g0) (nI b0)) 2 (nI (i + 1))) (i + 1) 0 (i + 1) i a2 0 k3) C gL_law_X0_picture rfl (by decide +kernel) rfl ⟨Nat.le_of_ble_eq_true rfl, Nat.le_of_ble_eq_true rfl⟩ rfl (Nat.le_of_ble_eq_true rfl) ⟨(by show ((21 + 0) + 0) + 0 ≤ 167; omega), (by show ((1519 + 6 * 0) + 6 * 0) + 6 * 0 ≤ 2655; omega)⟩ dL_law_183 ?_
        refine g_w (wB cI h g (sS (sS (s_pigment σ i (nI r0) (nI g0) (nI b0)) 2 (nI (i + 1))) 3 (nI (i + 1))) (sA (sA τ 0 (upd (upd (upd (τ.2 0) (3 * i) (nI (r0))) ((3 * i) + 1) (nI (g0))) ((3 * i) + 2) (nI (b0)))) 6 (upd (τ.2 6) i (50)))) rfl ?_
        refine g_iload 12 C rfl dL_law_186 ?_
        refine g_icmp_ne 195 C dL_law_188 (by decide) (fun q => absurd rfl q) (fun _ => ?_)
        refine g_iconst 1 C dL_law_191 (by decide) ?_
        refine g_goto 196 C dL_law_192 (by decide) ?_
        refine g_istore [(10, .int (1)), (12, .int (cellV L xs (600 + i))), (0, .ref (bs)), (1, .ref (h 0)), (2, .ref (g 0)), (3, .ref (g 1)), (4, .ref (g 2)), (5, .ref (g 3)), (6, .ref (g 4)), (7, .ref (g 5)), (8, .ref (g 6)), (9, .ref (g 7)), (11, .int (nI (i)))] C dL_law_196 (by decide) rfl ?_
        refine g_iincN 12 i 1 [(11, .int (nI (i + 1))), (10, .int (1)), (12, .int (cellV L xs (600 + i))), (0, .ref (bs)), (1, .ref (h 0)), (2, .ref (g 0)), (3, .ref (g 1)), (4, .ref (g 2)), (5, .ref (g 3)), (6, .ref (g 4)), (7, .ref (g 5)), (8, .ref (g 6)), (9, .ref (g 7))] C dL_law_198 rfl (by decide) (by decide) rfl ?_
        refine g_goto 60 C dL_law_201 (by decide) ?_
        refine g_lv [3, 4, 5, 6, 7, 8, 9, 10, 11, 12, 1, 0] [(0, .ref (bs)), (1, .ref (h 0)), (2, .ref (g 0)), (3, .ref (g 1)), (4, .ref (g 2)), (5, .ref (g 3)), (6, .ref (g 4)), (7, .ref (g 5)), (8, .ref (g 6)), (9, .ref (g 7)), (10, .int (1)), (11, .int (nI (i + 1)))] rfl ?_
        exact ih_60 (i + 1) (sS (sS (s_pigment σ i (nI r0) (nI g0) (nI b0)) 2 (nI (i + 1))) 3 (nI (i + 1))) (sA (sA τ 0 (upd (upd (upd (τ.2 0) (3 * i) (nI r0)) (3 * i + 1) (nI g0)) (3 * i + 2) (nI b0))) 6 (upd (τ.2 6) i 50)) (by omega) hI' (by omega)
  refine g_lv [2, 3, 4, 5, 6, 7, 8, 9, 10, 11, 1, 0] [(0, .ref (bs)), (1, .ref (h 0)), (2, .ref (g 0)), (3, .ref (g 1)), (4, .ref (g 2)), (5, .ref (g 3)), (6, .ref (g 4)), (7, .ref (g 5)), (8, .ref (g 6)), (9, .ref (g 7)), (10, .int (1)), (11, .int (0))] rfl ?_
  exact loop_60 5 0 σ τ (by omega) hI0 (by omega)
