/-! The law's loop. -/
theorem g_lret {p : Program} {l : Launch} {e : Env} {s : State} {m : MethodId} {below : List Frame} {meth : Method} {c : Code} {D : va_G} {TY : List (ClassId × FieldType)} {Ts : List Cond} {own : String} {bs k j pc : Nat} {w : va_W} {lv : List (Nat × Value)} (C : gC p s m #[Value.ref bs] meth c cL_law 7 own Ts D TY (fun q : Nat => s.heap.size ≤ q)) (hr : meth.sig.returnType = ret) (hd : decode code pc = .ok (.ireturn, 1)) (hk : k ≤ 1071) (hj : j ≤ 11110) : G p l e room_1 s m #[Value.ref bs] below meth c D (fun q : Nat => s.heap.size ≤ q) 7 k j (lw_Z below #[Value.ref bs] s) w lv pc [.int 1] :=
  fun _ _ _ _ _ hS _ => va_forget (fun q hq => hS.2.2 q hq) (W.widen hk hj (lw_ret C.1 C.2.1 hr C.2.2.2.2.2.2.2.1 hd))
set_option maxRecDepth 100000 in
set_option maxHeartbeats 4000000 in
theorem law_loop {p : Program} {l : Launch} {e : Env} {s : State} {m : MethodId} {below : List Frame} {meth : Method} {c : Code} {D : va_G} {cI cJ : ClassId} {bs L : Nat} {xs : Nat → Int32} {h gm : Nat → Nat} {ho : Nat} (hst : l.stackTraces = false) (C : gC p s m #[Value.ref bs] meth c cL_law 7 RL wsL_law D (tyIJ cI cJ) (fun q : Nat => s.heap.size ≤ q)) (hr : meth.sig.returnType = ret) (hX : va_X bs L xs s s.heap) (hbl : bs < s.heap.size) (hL : L ≤ 2048) :
    ∀ (fu n : Nat) (σ τ : gS) (fo : Nat → Int64), 4 * n ≤ L → L < 4 * n + 4 * fu → RE σ τ → G p l e room_1 s m #[Value.ref bs] below meth c D (fun q : Nat => s.heap.size ≤ q) 7 (31 + n) (2822 + 6 * n) (lw_Z below #[Value.ref bs] s) (wW cI cJ h ho gm σ fo τ) [(0, .ref bs), (1, .ref (h 0)), (2, .ref (gm 0)), (3, .ref ho), (4, .int (nI (4 * n)))] 23 [] := by
  have hbA : ¬ (fun q : Nat => s.heap.size ≤ q) bs := Nat.not_le.mpr hbl
  intro fu
  induction fu with
  | zero => intro n σ τ fo h1 h2; exact absurd h2 (by omega)
  | succ fu ih =>
    intro n σ τ fo h1 h2 hRE
    refine g_iload 4 C rfl dL_law_23 ?_
    refine g_aload_n 0 C rfl dL_law_25 rfl ?_
    refine g_slen C hX hbl hbA dL_law_26 ?_
    refine g_iconst 4 C dL_law_27 (by decide) ?_
    refine g_isub C dL_law_28 ?_
    refine g_icmp_gt 1558 C dL_law_29 (by decide) (fun cx => ?_) (fun cx => ?_)
    · refine g_iconst 1 C dL_law_1558 (by decide) ?_
      exact g_lret C hr dL_law_1559 (by omega) (by omega)
    · have hn : 4 * n + 3 < L := by
        have e1 : (nI L - nI 4).toInt = (L : Int) - (4 : Nat) := pk_sub_toInt (by omega) (by decide)
        have e2 : (nI (4 * n)).toInt = ((4 * n : Nat) : Int) := nI_toInt (by omega)
        have c2 : ¬ (nI L - nI 4) < nI (4 * n) := cx
        rw [i32_lt, e1, e2] at c2
        omega
      have KK : ∀ (σ' τ' : gS) (fo' : Nat → Int64), RE σ' τ' → G p l e room_1 s m #[Value.ref bs] below meth c D (fun q : Nat => s.heap.size ≤ q) 7 (31 + n + 1) (2822 + 6 * n + 6) (lw_Z below #[Value.ref bs] s) (wW cI cJ h ho gm σ' fo' τ') [(0, .ref bs), (1, .ref (h 0)), (2, .ref (gm 0)), (3, .ref ho), (4, .int (nI (4 * n)))] 1552 [] := by
        intro σ' τ' fo' hRE'
        refine g_iincN 4 (4 * n) 4 [(4, .int (nI (4 * n + 4))), (0, .ref bs), (1, .ref (h 0)), (2, .ref (gm 0)), (3, .ref ho)] C dL_law_1552 rfl (by decide) (by decide) rfl ?_
        refine g_goto 23 C dL_law_1555 (by decide) ?_
        refine g_lv [1, 2, 3, 4, 0] [(0, .ref bs), (1, .ref (h 0)), (2, .ref (gm 0)), (3, .ref ho), (4, .int (nI (4 * n + 4)))] rfl ?_
        exact ih (n + 1) σ' τ' fo' (by omega) (by omega) hRE'
      obtain ⟨np, nt, no, ni, hR⟩ := hRE
      refine g_aload_n 0 C rfl dL_law_32 rfl ?_
      refine g_iload 4 C rfl dL_law_33 ?_
      refine g_sldN (4 * n) C hX hbl hbA (by omega) (by omega) dL_law_35 ?_
      refine g_bipush 31 C dL_law_36 (by decide) ?_
      refine g_iand C dL_law_38 ?_
      obtain ⟨w, hw, ew⟩ := pk_andE (xs (4 * n)) (m := 31) 5 (by decide)
      refine g_is (nI w) ew ?_
      by_cases e0 : w = 0
      · subst e0
        refine g_tableIn (off := 97) 136 C dL_law_39 (by decide +kernel) (by decide +kernel) (by decide +kernel) (by decide) ?_
        exact lc_pigment hst C hX hbl hbA hn hL (by omega) hR KK
      by_cases e1 : w = 1
      · subst e1
        refine g_tableIn (off := 177) 216 C dL_law_39 (by decide +kernel) (by decide +kernel) (by decide +kernel) (by decide) ?_
        exact lc_tube hst C hX hbl hbA hn hL (by omega) hR KK
      by_cases e2 : w = 2
      · subst e2
        refine g_tableIn (off := 245) 284 C dL_law_39 (by decide +kernel) (by decide +kernel) (by decide +kernel) (by decide) ?_
        exact lc_pot hst C hX hbl hbA hn hL (by omega) hR KK
      by_cases e3 : w = 3
      · subst e3
        refine g_tableIn (off := 289) 328 C dL_law_39 (by decide +kernel) (by decide +kernel) (by decide +kernel) (by decide) ?_
        exact lc_squeeze hst C hX hbl hbA hn hL (by omega) hR KK
      by_cases e4 : w = 4
      · subst e4
        refine g_tableIn (off := 369) 408 C dL_law_39 (by decide +kernel) (by decide +kernel) (by decide +kernel) (by decide) ?_
        exact lc_pour hst C hX hbl hbA hn hL (by omega) hR KK
      by_cases e5 : w = 5
      · subst e5
        refine g_tableIn (off := 449) 488 C dL_law_39 (by decide +kernel) (by decide +kernel) (by decide +kernel) (by decide) ?_
        exact lc_scrape hst C hX hbl hbA hn hL (by omega) hR KK
      by_cases e6 : w = 6
      · subst e6
        refine g_tableIn (off := 505) 544 C dL_law_39 (by decide +kernel) (by decide +kernel) (by decide +kernel) (by decide) ?_
        exact lc_picture hst C hX hbl hbA hn hL (by omega) hR KK
      by_cases e7 : w = 7
      · subst e7
        refine g_tableIn (off := 549) 588 C dL_law_39 (by decide +kernel) (by decide +kernel) (by decide +kernel) (by decide) ?_
        exact lc_paint hst C hX hbl hbA hn hL (by omega) hR KK
      by_cases e8 : w = 8
      · subst e8
        refine g_tableIn (off := 629) 668 C dL_law_39 (by decide +kernel) (by decide +kernel) (by decide +kernel) (by decide) ?_
        exact lc_clean hst C hX hbl hbA hn hL (by omega) hR KK
      by_cases e9 : w = 9
      · subst e9
        refine g_tableIn (off := 697) 736 C dL_law_39 (by decide +kernel) (by decide +kernel) (by decide +kernel) (by decide) ?_
        exact lc_damp hst C hX hbl hbA hn hL (by omega) hR KK
      by_cases e10 : w = 10
      · subst e10
        refine g_tableIn (off := 765) 804 C dL_law_39 (by decide +kernel) (by decide +kernel) (by decide +kernel) (by decide) ?_
        exact lc_lend hst C hX hbl hbA hn hL (by omega) hR KK
      by_cases e11 : w = 11
      · subst e11
        refine g_tableIn (off := 845) 884 C dL_law_39 (by decide +kernel) (by decide +kernel) (by decide +kernel) (by decide) ?_
        exact lc_sell hst C hX hbl hbA hn hL (by omega) hR KK
      by_cases e12 : w = 12
      · subst e12
        refine g_tableIn (off := 913) 952 C dL_law_39 (by decide +kernel) (by decide +kernel) (by decide +kernel) (by decide) ?_
        exact lc_pass hst C hX hbl hbA hn hL (by omega) hR KK
      by_cases e13 : w = 13
      · subst e13
        refine g_tableIn (off := 969) 1008 C dL_law_39 (by decide +kernel) (by decide +kernel) (by decide +kernel) (by decide) ?_
        exact lc_left hst C hX hbl hbA hn hL (by omega) hR KK
      by_cases e14 : w = 14
      · subst e14
        refine g_tableIn (off := 1025) 1064 C dL_law_39 (by decide +kernel) (by decide +kernel) (by decide +kernel) (by decide) ?_
        exact lc_has hst C hX hbl hbA hn hL (by omega) hR KK
      by_cases e15 : w = 15
      · subst e15
        refine g_tableIn (off := 1093) 1132 C dL_law_39 (by decide +kernel) (by decide +kernel) (by decide +kernel) (by decide) ?_
        exact lc_colour hst C hX hbl hbA hn hL (by omega) hR KK
      by_cases e16 : w = 16
      · subst e16
        refine g_tableIn (off := 1161) 1200 C dL_law_39 (by decide +kernel) (by decide +kernel) (by decide +kernel) (by decide) ?_
        exact lc_of hst C hX hbl hbA hn hL (by omega) hR KK
      by_cases e17 : w = 17
      · subst e17
        refine g_tableIn (off := 1229) 1268 C dL_law_39 (by decide +kernel) (by decide +kernel) (by decide +kernel) (by decide) ?_
        exact lc_layer hst C hX hbl hbA hn hL (by omega) hR KK
      by_cases e18 : w = 18
      · subst e18
        refine g_tableIn (off := 1309) 1348 C dL_law_39 (by decide +kernel) (by decide +kernel) (by decide +kernel) (by decide) ?_
        exact lc_where hst C hX hbl hbA hn hL (by omega) hR KK
      by_cases e19 : w = 19
      · subst e19
        refine g_tableIn (off := 1377) 1416 C dL_law_39 (by decide +kernel) (by decide +kernel) (by decide +kernel) (by decide) ?_
        exact lc_recipe hst C hX hbl hbA hn hL (by omega) hR KK
      by_cases e20 : w = 20
      · subst e20
        refine g_tableIn (off := 1457) 1496 C dL_law_39 (by decide +kernel) (by decide +kernel) (by decide +kernel) (by decide) ?_
        exact lc_paid hst C hX hbl hbA hn hL (by omega) hR KK
      refine g_tableOut 1552 C dL_law_39 (Or.inr (by rw [nI_toInt (by omega)]; omega)) (by decide) ?_
      exact g_widen (by omega) (by omega) (KK σ τ fo ⟨np, nt, no, ni, hR⟩)
