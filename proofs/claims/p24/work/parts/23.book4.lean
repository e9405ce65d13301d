/-! The book, its calls (2). -/
set_option maxRecDepth 100000 in
set_option maxHeartbeats 4000000 in
theorem c_clean (l : Launch) (D : va_G) (cI cJ : ClassId) (hst : l.stackTraces = false) (h : Nat → Nat) (σ : gS) (np nt no ni : Nat) (hI : iA σ np nt no ni) (q n : Int32) (K : Nat) (hK : K = th_clean σ ni q n) : MC l yX0_clean wsX0_clean 7 112 D (tyIJ cI cJ) [.ref (h 0), .int (q), .int (n)] (wA cI h σ) (wA cI h (s_clean σ nt (cl q) (cl n))) (exT K) (some (.int (clS (σ.2 3) nt (cl q) (cl (σ.2 4 (cl q))) (cl n)))) (nT K) := by
  have hI0 := hI
  obtain ⟨⟨hnp, hnp6⟩, ⟨hnt, hnt12⟩, ⟨hno, hno10⟩, ⟨hni, hni8⟩, hPT, hLC, hLH⟩ := hI
  refine MC.ofG (cc := cX0_clean) (maxL := 5) (ret := (some .int)) [(0, .ref (h 0)), (1, .int (q)), (2, .int (n))] (by decide) rfl (Nat.le_of_ble_eq_true rfl) rfl ?_
  intro p e s m args below meth c C hr hout
  have hin : ∀ w ∈ wsX00, w ∈ wsX0_clean := fun w h => by first | exact List.mem_cons_of_mem _ (List.mem_append_right _ h) | exact List.mem_cons_of_mem _ (List.mem_append_left _ (List.mem_append_right _ h)) | exact List.mem_cons_of_mem _ (List.mem_append_left _ (List.mem_append_left _ (List.mem_append_right _ h))) | exact List.mem_cons_of_mem _ (List.mem_append_left _ (List.mem_append_left _ (List.mem_append_left _ (List.mem_append_right _ h)))) | exact List.mem_cons_of_mem _ (List.mem_append_left _ (List.mem_append_left _ (List.mem_append_left _ (List.mem_append_left _ (List.mem_append_right _ h)))))
  refine g_iload_n 1 C rfl dX0_clean_0 rfl ?_
  refine g_aload_n 0 C rfl dX0_clean_1 rfl ?_
  refine g_get (C0 := RX0) (T := TX0) (N := 17) 0 0 3 (.int (σ.1 3)) C hin rfl rfl (by decide) (by decide +kernel) rfl dX0_clean_2 ?_
  refine g_is (nI ni) hni ?_
  by_cases c_5_1 : bad q (nI (ni))
  ·
    obtain rfl : K = 1 := hK.trans (by simp [th_clean, c_5_1])
    exact g_callSX (na := 2) (av := [.int (q), .int (nI (ni))]) (c_checkNumber l D cI cJ hst _ q (nI (ni)) 1 (if_pos c_5_1).symm) C gX0_clean_X0_checkNumber rfl (by decide +kernel) rfl ⟨by decide, by decide⟩ rfl (Nat.le_of_ble_eq_true rfl) ⟨by decide, by decide⟩ hout (by decide) (by decide) rfl dX0_clean_5
  refine g_callS0 (na := 2) (av := [.int (q), .int (nI (ni))]) (c_checkNumber l D cI cJ hst _ q (nI (ni)) 0 (if_neg c_5_1).symm) C gX0_clean_X0_checkNumber rfl (by decide +kernel) rfl ⟨Nat.le_of_ble_eq_true rfl, Nat.le_of_ble_eq_true rfl⟩ rfl (Nat.le_of_ble_eq_true rfl) ⟨Nat.zero_le _, Nat.zero_le _⟩ rfl dX0_clean_5 ?_
  obtain ⟨q', hq', rfl⟩ := nb_of (N := ni) rfl (by omega) c_5_1
  have kq' : cl (nI q') = q' := cl_nI (by omega)
  refine g_iload_n 2 C rfl dX0_clean_8 rfl ?_
  refine g_iconst 1 C dX0_clean_9 (by decide) ?_
  refine g_bipush 12 C dX0_clean_10 (by decide) ?_
  by_cases c_12_2 : out (n) (1) (12)
  ·
    obtain rfl : K = 2 := hK.trans (by simp [th_clean, c_5_1, c_12_2, kq'])
    exact g_callSX (na := 3) (av := [.int (n), .int (1), .int (12)]) (c_checkRange l D cI cJ hst _ (n) (1) (12) 2 (if_pos c_12_2).symm) C gX0_clean_X0_checkRange rfl (by decide +kernel) rfl ⟨by decide, by decide⟩ rfl (Nat.le_of_ble_eq_true rfl) ⟨by decide, by decide⟩ hout (by decide) (by decide) rfl dX0_clean_12
  refine g_callS0 (na := 3) (av := [.int (n), .int (1), .int (12)]) (c_checkRange l D cI cJ hst _ (n) (1) (12) 0 (if_neg c_12_2).symm) C gX0_clean_X0_checkRange rfl (by decide +kernel) rfl ⟨Nat.le_of_ble_eq_true rfl, Nat.le_of_ble_eq_true rfl⟩ rfl (Nat.le_of_ble_eq_true rfl) ⟨Nat.zero_le _, Nat.zero_le _⟩ rfl dX0_clean_12 ?_
  have hn1 := out_lo c_12_2
  obtain ⟨n', hn', rfl⟩ := out_nat (M := 12) rfl (by decide) c_12_2
  have kn' : cl (nI n') = n' := cl_nI (by omega)
  refine g_aload_n 0 C rfl dX0_clean_15 rfl ?_
  refine g_iload_n 1 C rfl dX0_clean_16 rfl ?_
  by_cases c_17_3 : ¬ σ.2 7 q' ≤ 0
  ·
    obtain rfl : K = 3 := hK.trans (by simp [th_clean, c_5_1, c_12_2, c_17_3, kq', kn'])
    exact g_callVX (C0 := RX0) (T := TX0) (N := 17) (ci := 0) (na := 1) (As := [.int (nI (q'))]) (c_checkAtHome l D cI cJ hst h σ np nt no ni hI0 q' (by omega) 3 (if_pos c_17_3).symm) C gX0_clean_X0_checkAtHome rfl (by decide +kernel) rfl ⟨by decide, by decide⟩ rfl rfl rfl (Nat.le_of_ble_eq_true rfl) ⟨by decide, by decide⟩ hout (by decide) (by decide) rfl dX0_clean_17
  refine g_callV0 (C0 := RX0) (T := TX0) (N := 17) (ci := 0) (na := 1) (As := [.int (nI (q'))]) (c_checkAtHome l D cI cJ hst h σ np nt no ni hI0 q' (by omega) 0 (if_neg c_17_3).symm) C gX0_clean_X0_checkAtHome rfl (by decide +kernel) rfl ⟨Nat.le_of_ble_eq_true rfl, Nat.le_of_ble_eq_true rfl⟩ rfl rfl rfl (Nat.le_of_ble_eq_true rfl) ⟨Nat.zero_le _, Nat.zero_le _⟩ rfl dX0_clean_17 ?_
  refine g_aload_n 0 C rfl dX0_clean_20 rfl ?_
  refine g_get (C0 := RX0) (T := TX0) (N := 17) 0 0 9 (.ref (h 5)) C hin rfl rfl (by decide) (by decide +kernel) rfl dX0_clean_21 ?_
  refine g_iload_n 1 C rfl dX0_clean_24 rfl ?_
  refine g_ialdN (cA := cI) (n := 8) (a := h 5) (f := σ.2 4) q' 5 0 C rfl rfl (by omega) (by decide) dX0_clean_25 ?_
  obtain ⟨jL, hjL, ejL⟩ := hLC q'
  refine g_is (nI (jL)) ejL ?_
  refine g_iload_n 2 C rfl dX0_clean_26 rfl ?_
  refine g_icmp_ge 40 C dX0_clean_27 (by decide) (fun c_27_4 => ?_) (fun c_27_4 => ?_)
  ·
    have d_27_4 : n' ≤ jL := (nI_leI (a := n') (b := jL) (by omega) (by omega)).mp c_27_4
    refine g_iconst 0 C dX0_clean_40 (by decide) ?_
    refine g_istore_n [(3, .int (0)), (0, .ref (h 0)), (1, .int (nI (q'))), (2, .int (nI (n')))] C dX0_clean_41 rfl (by decide) rfl ?_
    refine g_iconst 0 C dX0_clean_42 (by decide) ?_
    refine g_istore [(4, .int (0)), (3, .int (0)), (0, .ref (h 0)), (1, .int (nI (q'))), (2, .int (nI (n')))] C dX0_clean_43 (by decide) rfl ?_
    have loop_45 : ∀ (fu : Nat) (k : Nat), k ≤ n' → n' + 1 ≤ k + fu → G p l e ({ frames := 7, cells := (nT K), slots := 6 * (nT K), locals := 112 } : Room) s m args below meth c D (va_A (wA cI h σ) s.heap.size) 5 0 0 (gQ below D (wA cI h σ) (wA cI h (s_clean σ nt (cl (nI q')) (cl (nI n')))) (exT K) (some (.int (clS (σ.2 3) nt (cl (nI q')) (cl (σ.2 4 (cl (nI q')))) (cl (nI n'))))) (nT K) args s) (wA cI h (sA (sA σ 3 (clL (σ.2 3) nt q' jL k)) 4 (upd (σ.2 4) q' (nI (jL - k))))) [(0, .ref (h 0)), (1, .int (nI (q'))), (2, .int (nI (n'))), (3, .int (clS (σ.2 3) nt q' jL k)), (4, .int (nI (k)))] 45 [] := by
      intro fu
      induction fu with
      | zero => intro k hk hf; exact absurd True.intro (by omega)
      | succ fu ih_45 =>
        intro k hk hf
        refine g_iload 4 C rfl dX0_clean_45 ?_
        refine g_iload_n 2 C rfl dX0_clean_47 rfl ?_
        refine g_icmp_ge 84 C dX0_clean_48 (by decide) (fun c_48_5 => ?_) (fun c_48_5 => ?_)
        ·
          have d_48_5 : n' ≤ k := (nI_leI (a := n') (b := k) (by omega) (by omega)).mp c_48_5
          refine g_iload_n 3 C rfl dX0_clean_84 rfl ?_
          obtain rfl : K = 0 := hK.trans (by simp [th_clean, c_5_1, c_12_2, c_17_3, c_27_4, c_48_5, kq', kn', ejL])
          exact g_iret C hr rfl dX0_clean_85 (Nat.zero_le _) (Nat.zero_le _) rfl (by rw [kq', kn', ejL, cl_nI (by omega), show n' = k by omega]) (by rw [s_clean, kq', kn', ejL, cl_nI (by omega), show n' = k by omega])
        ·
          have d_48_5 : ¬ n' ≤ k := fun zz => c_48_5 ((nI_leI (a := n') (b := k) (by omega) (by omega)).mpr zz)
          refine g_aload_n 0 C rfl dX0_clean_51 rfl ?_
          refine g_get (C0 := RX0) (T := TX0) (N := 17) 0 0 9 (.ref (h 5)) C hin rfl rfl (by decide) (by decide +kernel) rfl dX0_clean_52 ?_
          refine g_iload_n 1 C rfl dX0_clean_55 rfl ?_
          refine g_dup2 C dX0_clean_56 rfl rfl ?_
          refine g_ialdN (cA := cI) (n := 8) (a := h 5) (f := upd (σ.2 4) q' (nI (jL - k))) q' 5 0 C rfl rfl (by omega) (by decide) dX0_clean_57 ?_
          refine g_is (nI (jL - k)) pk_us ?_
          refine g_iconst 1 C dX0_clean_58 (by decide) ?_
          refine g_isubN (jL - k) 1 C (by omega) dX0_clean_59 ?_
          refine g_iastN (cA := cI) (n := 8) (a := h 5) (f := upd (σ.2 4) q' (nI (jL - k))) (x := nI ((jL - k) - 1)) q' 5 0 (wA cI h (sA (sA σ 3 (clL (σ.2 3) nt q' jL k)) 4 (upd (upd (σ.2 4) q' (nI (jL - k))) q' (nI ((jL - k) - 1))))) C rfl rfl (by omega) (by decide) rfl dX0_clean_60 ?_
          refine g_w (wA cI h (sA (sA σ 3 (clL (σ.2 3) nt q' jL k)) 4 (upd (σ.2 4) q' (nI (jL - k - 1))))) (by rw [upd_two]) ?_
          refine g_iload_n 3 C rfl dX0_clean_61 rfl ?_
          refine g_aload_n 0 C rfl dX0_clean_62 rfl ?_
          refine g_iload_n 1 C rfl dX0_clean_63 rfl ?_
          refine g_aload_n 0 C rfl dX0_clean_64 rfl ?_
          refine g_get (C0 := RX0) (T := TX0) (N := 17) 0 0 9 (.ref (h 5)) C hin rfl rfl (by decide) (by decide +kernel) rfl dX0_clean_65 ?_
          refine g_iload_n 1 C rfl dX0_clean_68 rfl ?_
          refine g_ialdN (cA := cI) (n := 8) (a := h 5) (f := upd (σ.2 4) q' (nI (jL - k - 1))) q' 5 0 C rfl rfl (by omega) (by decide) dX0_clean_69 ?_
          refine g_is (nI (jL - k - 1)) pk_us ?_
          refine g_callS0 (na := 2) (av := [.int (nI (q')), .int (nI (jL - k - 1))]) (c_layerRow l D cI cJ _ q' (jL - k - 1)) C gX0_clean_X0_layerRow rfl (by decide +kernel) rfl ⟨Nat.le_of_ble_eq_true rfl, Nat.le_of_ble_eq_true rfl⟩ rfl (Nat.le_of_ble_eq_true rfl) ⟨Nat.zero_le _, Nat.zero_le _⟩ rfl dX0_clean_70 ?_
          refine g_callV0 (C0 := RX0) (T := TX0) (N := 17) (ci := 0) (na := 1) (As := [.int (nI (10 + q' * 12 + (jL - k - 1)))]) (c_waste l D cI cJ h (sA (sA σ 3 (clL (σ.2 3) nt q' jL k)) 4 (upd (σ.2 4) q' (nI (jL - k - 1)))) np nt no ni (iA_LC hI0 _ q' (by omega)) (10 + q' * 12 + (jL - k - 1)) (by omega)) C gX0_clean_X0_waste rfl (by decide +kernel) rfl ⟨Nat.le_of_ble_eq_true rfl, Nat.le_of_ble_eq_true rfl⟩ rfl rfl rfl (Nat.le_of_ble_eq_true rfl) ⟨Nat.zero_le _, Nat.zero_le _⟩ rfl dX0_clean_73 ?_
          refine g_w (wA cI h (sA (sA σ 3 (wzL (clL (σ.2 3) nt q' jL k) (10 + q' * 12 + (jL - k - 1)) nt)) 4 (upd (σ.2 4) q' (nI (jL - k - 1))))) rfl ?_
          refine g_iadd C dX0_clean_76 ?_
          refine g_istore_n [(3, .int ((clS (σ.2 3) nt q' jL k) + (rowS (clL (σ.2 3) nt q' jL k) (10 + q' * 12 + (jL - k - 1)) nt))), (0, .ref (h 0)), (1, .int (nI (q'))), (2, .int (nI (n'))), (4, .int (nI (k)))] C dX0_clean_77 rfl (by decide) rfl ?_
          refine g_iincN 4 k 1 [(4, .int (nI (k + 1))), (3, .int ((clS (σ.2 3) nt q' jL k) + (rowS (clL (σ.2 3) nt q' jL k) (10 + q' * 12 + (jL - k - 1)) nt))), (0, .ref (h 0)), (1, .int (nI (q'))), (2, .int (nI (n')))] C dX0_clean_78 rfl (by decide) (by decide) rfl ?_
          refine g_goto 45 C dX0_clean_81 (by decide) ?_
          refine g_lv [2, 3, 4, 1, 0] [(0, .ref (h 0)), (1, .int (nI (q'))), (2, .int (nI (n'))), (3, .int ((clS (σ.2 3) nt q' jL k) + (rowS (clL (σ.2 3) nt q' jL k) (10 + q' * 12 + (jL - k - 1)) nt))), (4, .int (nI (k + 1)))] rfl ?_
          exact ih_45 (k + 1) (by omega) (by omega)
    refine g_lv [2, 3, 4, 1, 0] [(0, .ref (h 0)), (1, .int (nI (q'))), (2, .int (nI (n'))), (3, .int (0)), (4, .int (0))] rfl ?_
    refine g_w (wA cI h (sA (sA σ 3 (clL (σ.2 3) nt q' jL 0)) 4 (upd (σ.2 4) q' (nI (jL - 0))))) (by rw [show upd (σ.2 4) q' (nI (jL - 0)) = σ.2 4 from upd_id ejL]; rfl) ?_
    exact loop_45 (n' + 1) 0 (by omega) (by omega)
  ·
    have d_27_4 : ¬ n' ≤ jL := fun zz => c_27_4 ((nI_leI (a := n') (b := jL) (by omega) (by omega)).mpr zz)
    obtain rfl : K = 3 := hK.trans (by simp [th_clean, c_5_1, c_12_2, c_17_3, c_27_4, kq', kn', ejL])
    exact g_throw (cls := eISE) (text := "the picture has not so many layers") C hst rfl (by decide +kernel) (by decide +kernel) (by decide +kernel) (by decide +kernel) (by decide +kernel) (by decide +kernel) (by decide +kernel) hout dX0_clean_30 dX0_clean_33 dX0_clean_34 dX0_clean_36 dX0_clean_39 (by decide) (by decide) (by decide) (by decide) (by decide) (by decide) rfl
set_option maxRecDepth 100000 in
set_option maxHeartbeats 4000000 in
theorem c_pass (l : Launch) (D : va_G) (cI cJ : ClassId) (hst : l.stackTraces = false) (h : Nat → Nat) (σ : gS) (np nt no ni : Nat) (hI : iA σ np nt no ni) (d : Int32) (K : Nat) (hK : K = th_pass σ d) : MC l yX0_pass wsX0_pass 7 112 D (tyIJ cI cJ) [.ref (h 0), .int (d)] (wA cI h σ) (wA cI h (sS (pfls σ d ni) 4 (σ.1 4 + d))) (exT K) (some (.int (σ.1 4 + d))) (nT K) := by
  have hI0 := hI
  obtain ⟨⟨hnp, hnp6⟩, ⟨hnt, hnt12⟩, ⟨hno, hno10⟩, ⟨hni, hni8⟩, hPT, hLC, hLH⟩ := hI
  refine MC.ofG (cc := cX0_pass) (maxL := 3) (ret := (some .int)) [(0, .ref (h 0)), (1, .int (d))] (by decide) rfl (Nat.le_of_ble_eq_true rfl) rfl ?_
  intro p e s m args below meth c C hr hout
  have hin : ∀ w ∈ wsX00, w ∈ wsX0_pass := fun w h => by first | exact List.mem_cons_of_mem _ (List.mem_append_right _ h) | exact List.mem_cons_of_mem _ (List.mem_append_left _ (List.mem_append_right _ h)) | exact List.mem_cons_of_mem _ (List.mem_append_left _ (List.mem_append_left _ (List.mem_append_right _ h))) | exact List.mem_cons_of_mem _ (List.mem_append_left _ (List.mem_append_left _ (List.mem_append_left _ (List.mem_append_right _ h)))) | exact List.mem_cons_of_mem _ (List.mem_append_left _ (List.mem_append_left _ (List.mem_append_left _ (List.mem_append_left _ (List.mem_append_right _ h)))))
  refine g_iload_n 1 C rfl dX0_pass_0 rfl ?_
  refine g_iconst 1 C dX0_pass_1 (by decide) ?_
  refine g_bipush 100 C dX0_pass_2 (by decide) ?_
  by_cases c_4_1 : out (d) (1) (100)
  ·
    obtain rfl : K = 2 := hK.trans (by simp [th_pass, c_4_1])
    exact g_callSX (na := 3) (av := [.int (d), .int (1), .int (100)]) (c_checkRange l D cI cJ hst _ (d) (1) (100) 2 (if_pos c_4_1).symm) C gX0_pass_X0_checkRange rfl (by decide +kernel) rfl ⟨by decide, by decide⟩ rfl (Nat.le_of_ble_eq_true rfl) ⟨by decide, by decide⟩ hout (by decide) (by decide) rfl dX0_pass_4
  refine g_callS0 (na := 3) (av := [.int (d), .int (1), .int (100)]) (c_checkRange l D cI cJ hst _ (d) (1) (100) 0 (if_neg c_4_1).symm) C gX0_pass_X0_checkRange rfl (by decide +kernel) rfl ⟨Nat.le_of_ble_eq_true rfl, Nat.le_of_ble_eq_true rfl⟩ rfl (Nat.le_of_ble_eq_true rfl) ⟨Nat.zero_le _, Nat.zero_le _⟩ rfl dX0_pass_4 ?_
  have hd1 := out_lo c_4_1
  refine g_aload_n 0 C rfl dX0_pass_7 rfl ?_
  refine g_get (C0 := RX0) (T := TX0) (N := 17) 0 0 4 (.int (σ.1 4)) C hin rfl rfl (by decide) (by decide +kernel) rfl dX0_pass_8 ?_
  refine g_iload_n 1 C rfl dX0_pass_11 rfl ?_
  refine g_iadd C dX0_pass_12 ?_
  refine g_sipush 5000 C dX0_pass_13 (by decide) ?_
  refine g_icmp_le 29 C dX0_pass_16 (by decide) (fun c_16_2 => ?_) (fun c_16_2 => ?_)
  ·
    refine g_iconst 0 C dX0_pass_29 (by decide) ?_
    refine g_istore_n [(2, .int (0)), (0, .ref (h 0)), (1, .int (d))] C dX0_pass_30 rfl (by decide) rfl ?_
    have loop_31 : ∀ (fu : Nat) (i : Nat), i ≤ ni → ni + 1 ≤ i + fu → G p l e ({ frames := 7, cells := (nT K), slots := 6 * (nT K), locals := 112 } : Room) s m args below meth c D (va_A (wA cI h σ) s.heap.size) 3 0 0 (gQ below D (wA cI h σ) (wA cI h (sS (pfls σ d ni) 4 (σ.1 4 + d))) (exT K) (some (.int (σ.1 4 + d))) (nT K) args s) (wA cI h (pfls σ d i)) [(0, .ref (h 0)), (1, .int (d)), (2, .int (nI (i)))] 31 [] := by
      intro fu
      induction fu with
      | zero => intro i hi hf; exact absurd True.intro (by omega)
      | succ fu ih_31 =>
        intro i hi hf
        have hIi := iA_pfls hI0 d i
        refine g_iload_n 2 C rfl dX0_pass_31 rfl ?_
        refine g_aload_n 0 C rfl dX0_pass_32 rfl ?_
        refine g_get (C0 := RX0) (T := TX0) (N := 17) 0 0 3 (.int ((pfls σ d i).1 3)) C hin rfl rfl (by decide) (by decide +kernel) rfl dX0_pass_33 ?_
        refine g_is (nI ni) hIi.2.2.2.1.1 ?_
        refine g_icmp_ge 51 C dX0_pass_36 (by decide) (fun c_36_3 => ?_) (fun c_36_3 => ?_)
        ·
          have d_36_3 : ni ≤ i := (nI_leI (a := ni) (b := i) (by omega) (by omega)).mp c_36_3
          refine g_aload_n 0 C rfl dX0_pass_51 rfl ?_
          refine g_dup C dX0_pass_52 rfl ?_
          refine g_get (C0 := RX0) (T := TX0) (N := 17) 0 0 4 (.int ((pfls σ d i).1 4)) C hin rfl rfl (by decide) (by decide +kernel) rfl dX0_pass_53 ?_
          refine g_iload_n 1 C rfl dX0_pass_56 rfl ?_
          refine g_iadd C dX0_pass_57 ?_
          refine g_put (C0 := RX0) (T := TX0) (N := 17) 0 0 4 (wA cI h (sS (pfls σ d i) 4 ((((pfls σ d i).1 4) + d)))) C hin tyX0_ok nmX0 rfl rfl (by decide) (by decide +kernel) rfl (by decide +kernel) (Nat.le_of_ble_eq_true rfl) rfl dX0_pass_58 ?_
          refine g_aload_n 0 C rfl dX0_pass_61 rfl ?_
          refine g_get (C0 := RX0) (T := TX0) (N := 17) 0 0 4 (.int (((pfls σ d i).1 4) + d)) C hin rfl rfl (by decide) (by decide +kernel) rfl dX0_pass_62 ?_
          obtain rfl : K = 0 := hK.trans (by simp [th_pass, c_4_1, c_16_2, c_36_3])
          exact g_iret C hr rfl dX0_pass_65 (Nat.zero_le _) (Nat.zero_le _) rfl (by rw [pfls_1]) (by rw [show ni = i by omega, pfls_1])
        ·
          have d_36_3 : ¬ ni ≤ i := fun zz => c_36_3 ((nI_leI (a := ni) (b := i) (by omega) (by omega)).mpr zz)
          refine g_aload_n 0 C rfl dX0_pass_39 rfl ?_
          refine g_iload_n 2 C rfl dX0_pass_40 rfl ?_
          refine g_iload_n 1 C rfl dX0_pass_41 rfl ?_
          refine g_callV0 (C0 := RX0) (T := TX0) (N := 17) (ci := 0) (na := 2) (As := [.int (nI (i)), .int (d)]) (c_passForLoan l D cI cJ h (pfls σ d i) np nt no ni hIi i d (by omega)) C gX0_pass_X0_passForLoan rfl (by decide +kernel) rfl ⟨Nat.le_of_ble_eq_true rfl, Nat.le_of_ble_eq_true rfl⟩ rfl rfl rfl (Nat.le_of_ble_eq_true rfl) ⟨Nat.zero_le _, Nat.zero_le _⟩ rfl dX0_pass_42 ?_
          refine g_w (wA cI h (pfl (pfls σ d i) d i)) rfl ?_
          refine g_iincN 2 i 1 [(2, .int (nI (i + 1))), (0, .ref (h 0)), (1, .int (d))] C dX0_pass_45 rfl (by decide) (by decide) rfl ?_
          refine g_goto 31 C dX0_pass_48 (by decide) ?_
          refine g_lv [1, 2, 0] [(0, .ref (h 0)), (1, .int (d)), (2, .int (nI (i + 1)))] rfl ?_
          exact ih_31 (i + 1) (by omega) (by omega)
    refine g_lv [1, 2, 0] [(0, .ref (h 0)), (1, .int (d)), (2, .int (0))] rfl ?_
    exact loop_31 (ni + 1) 0 (by omega) (by omega)
  ·
    obtain rfl : K = 3 := hK.trans (by simp [th_pass, c_4_1, c_16_2])
    exact g_throw (cls := eISE) (text := "the book ends before that day") C hst rfl (by decide +kernel) (by decide +kernel) (by decide +kernel) (by decide +kernel) (by decide +kernel) (by decide +kernel) (by decide +kernel) hout dX0_pass_19 dX0_pass_22 dX0_pass_23 dX0_pass_25 dX0_pass_28 (by decide) (by decide) (by decide) (by decide) (by decide) (by decide) rfl
set_option maxRecDepth 100000 in
set_option maxHeartbeats 4000000 in
theorem c_has (l : Launch) (D : va_G) (cI cJ : ClassId) (hst : l.stackTraces = false) (h : Nat → Nat) (σ : gS) (np nt no ni : Nat) (hI : iA σ np nt no ni) (x t : Int32) (K : Nat) (hK : K = th_has nt no x t) : MC l yX0_has wsX0_has 7 111 D (tyIJ cI cJ) [.ref (h 0), .int (x), .int (t)] (wA cI h σ) (wA cI h σ) (exT K) (some (.int (r_has σ nt (cl x) t))) (nT K) := by
  have hI0 := hI
  obtain ⟨⟨hnp, hnp6⟩, ⟨hnt, hnt12⟩, ⟨hno, hno10⟩, ⟨hni, hni8⟩, hPT, hLC, hLH⟩ := hI
  refine MC.ofG (cc := cX0_has) (maxL := 3) (ret := (some .int)) [(0, .ref (h 0)), (1, .int (x)), (2, .int (t))] (by decide) rfl (Nat.le_of_ble_eq_true rfl) rfl ?_
  intro p e s m args below meth c C hr hout
  have hin : ∀ w ∈ wsX00, w ∈ wsX0_has := fun w h => by first | exact List.mem_cons_of_mem _ (List.mem_append_right _ h) | exact List.mem_cons_of_mem _ (List.mem_append_left _ (List.mem_append_right _ h)) | exact List.mem_cons_of_mem _ (List.mem_append_left _ (List.mem_append_left _ (List.mem_append_right _ h))) | exact List.mem_cons_of_mem _ (List.mem_append_left _ (List.mem_append_left _ (List.mem_append_left _ (List.mem_append_right _ h)))) | exact List.mem_cons_of_mem _ (List.mem_append_left _ (List.mem_append_left _ (List.mem_append_left _ (List.mem_append_left _ (List.mem_append_right _ h)))))
  refine g_iload_n 1 C rfl dX0_has_0 rfl ?_
  refine g_aload_n 0 C rfl dX0_has_1 rfl ?_
  refine g_get (C0 := RX0) (T := TX0) (N := 17) 0 0 2 (.int (σ.1 2)) C hin rfl rfl (by decide) (by decide +kernel) rfl dX0_has_2 ?_
  refine g_is (nI no) hno ?_
  by_cases c_5_1 : bad x (nI (no))
  ·
    obtain rfl : K = 1 := hK.trans (by simp [th_has, c_5_1])
    exact g_callSX (na := 2) (av := [.int (x), .int (nI (no))]) (c_checkNumber l D cI cJ hst _ x (nI (no)) 1 (if_pos c_5_1).symm) C gX0_has_X0_checkNumber rfl (by decide +kernel) rfl ⟨by decide, by decide⟩ rfl (Nat.le_of_ble_eq_true rfl) ⟨by decide, by decide⟩ hout (by decide) (by decide) rfl dX0_has_5
  refine g_callS0 (na := 2) (av := [.int (x), .int (nI (no))]) (c_checkNumber l D cI cJ hst _ x (nI (no)) 0 (if_neg c_5_1).symm) C gX0_has_X0_checkNumber rfl (by decide +kernel) rfl ⟨Nat.le_of_ble_eq_true rfl, Nat.le_of_ble_eq_true rfl⟩ rfl (Nat.le_of_ble_eq_true rfl) ⟨Nat.zero_le _, Nat.zero_le _⟩ rfl dX0_has_5 ?_
  obtain ⟨x', hx', rfl⟩ := nb_of (N := no) rfl (by omega) c_5_1
  have kx' : cl (nI x') = x' := cl_nI (by omega)
  refine g_iload_n 2 C rfl dX0_has_8 rfl ?_
  refine g_iconst (-1) C dX0_has_9 (by decide) ?_
  refine g_icmp_ne 22 C dX0_has_10 (by decide) (fun c_10_2 => ?_) (fun c_10_2 => ?_)
  ·
    refine g_iload_n 2 C rfl dX0_has_22 rfl ?_
    refine g_aload_n 0 C rfl dX0_has_23 rfl ?_
    refine g_get (C0 := RX0) (T := TX0) (N := 17) 0 0 1 (.int (σ.1 1)) C hin rfl rfl (by decide) (by decide +kernel) rfl dX0_has_24 ?_
    refine g_is (nI nt) hnt ?_
    by_cases c_27_3 : bad t (nI (nt))
    ·
      obtain rfl : K = 1 := hK.trans (by simp [th_has, c_5_1, c_10_2, c_27_3, kx'])
      exact g_callSX (na := 2) (av := [.int (t), .int (nI (nt))]) (c_checkNumber l D cI cJ hst _ t (nI (nt)) 1 (if_pos c_27_3).symm) C gX0_has_X0_checkNumber rfl (by decide +kernel) rfl ⟨by decide, by decide⟩ rfl (Nat.le_of_ble_eq_true rfl) ⟨by decide, by decide⟩ hout (by decide) (by decide) rfl dX0_has_27
    refine g_callS0 (na := 2) (av := [.int (t), .int (nI (nt))]) (c_checkNumber l D cI cJ hst _ t (nI (nt)) 0 (if_neg c_27_3).symm) C gX0_has_X0_checkNumber rfl (by decide +kernel) rfl ⟨Nat.le_of_ble_eq_true rfl, Nat.le_of_ble_eq_true rfl⟩ rfl (Nat.le_of_ble_eq_true rfl) ⟨Nat.zero_le _, Nat.zero_le _⟩ rfl dX0_has_27 ?_
    obtain ⟨t', ht', rfl⟩ := nb_of (N := nt) rfl (by omega) c_27_3
    have kt' : cl (nI t') = t' := cl_nI (by omega)
    refine g_aload_n 0 C rfl dX0_has_30 rfl ?_
    refine g_get (C0 := RX0) (T := TX0) (N := 17) 0 0 8 (.ref (h 4)) C hin rfl rfl (by decide) (by decide +kernel) rfl dX0_has_31 ?_
    refine g_iload_n 1 C rfl dX0_has_34 rfl ?_
    refine g_callS0 (na := 1) (av := [.int (nI (x'))]) (c_potRow l D cI cJ _ (nI (x'))) C gX0_has_X0_potRow rfl (by decide +kernel) rfl ⟨Nat.le_of_ble_eq_true rfl, Nat.le_of_ble_eq_true rfl⟩ rfl (Nat.le_of_ble_eq_true rfl) ⟨Nat.zero_le _, Nat.zero_le _⟩ rfl dX0_has_35 ?_
    refine g_iload_n 2 C rfl dX0_has_38 rfl ?_
    refine g_callS0 (na := 2) (av := [.int (nI (x')), .int (nI (t'))]) (c_place l D cI cJ _ x' t') C gX0_has_X0_place rfl (by decide +kernel) rfl ⟨Nat.le_of_ble_eq_true rfl, Nat.le_of_ble_eq_true rfl⟩ rfl (Nat.le_of_ble_eq_true rfl) ⟨Nat.zero_le _, Nat.zero_le _⟩ rfl dX0_has_39 ?_
    refine g_ialdN (cA := cI) (n := 1284) (a := h 4) (f := σ.2 3) (x' * 12 + t') 4 0 C rfl rfl (by omega) (by decide) dX0_has_42 ?_
    obtain rfl : K = 0 := hK.trans (by simp [th_has, c_5_1, c_10_2, c_27_3, kx', kt'])
    exact g_iret C hr rfl dX0_has_43 (Nat.zero_le _) (Nat.zero_le _) rfl (by rw [kx', r_has, if_neg c_10_2, kt']) rfl
  ·
    refine g_aload_n 0 C rfl dX0_has_13 rfl ?_
    refine g_iload_n 1 C rfl dX0_has_14 rfl ?_
    refine g_callS0 (na := 1) (av := [.int (nI (x'))]) (c_potRow l D cI cJ _ (nI (x'))) C gX0_has_X0_potRow rfl (by decide +kernel) rfl ⟨Nat.le_of_ble_eq_true rfl, Nat.le_of_ble_eq_true rfl⟩ rfl (Nat.le_of_ble_eq_true rfl) ⟨Nat.zero_le _, Nat.zero_le _⟩ rfl dX0_has_15 ?_
    refine g_callV0 (C0 := RX0) (T := TX0) (N := 17) (ci := 0) (na := 1) (As := [.int (nI (x'))]) (c_sumOfRow l D cI cJ h σ np nt no ni hI0 x' (by omega)) C gX0_has_X0_sumOfRow rfl (by decide +kernel) rfl ⟨Nat.le_of_ble_eq_true rfl, Nat.le_of_ble_eq_true rfl⟩ rfl rfl rfl (Nat.le_of_ble_eq_true rfl) ⟨Nat.zero_le _, Nat.zero_le _⟩ rfl dX0_has_18 ?_
    obtain rfl : K = 0 := hK.trans (by simp [th_has, c_5_1, c_10_2, kx'])
    exact g_iret C hr rfl dX0_has_21 (Nat.zero_le _) (Nat.zero_le _) rfl (by rw [kx', r_has, if_pos c_10_2]) rfl
set_option maxRecDepth 100000 in
set_option maxHeartbeats 4000000 in
theorem c_of (l : Launch) (D : va_G) (cI cJ : ClassId) (hst : l.stackTraces = false) (h : Nat → Nat) (σ : gS) (np nt no ni : Nat) (hI : iA σ np nt no ni) (q v : Int32) (K : Nat) (hK : K = th_of ni q v) : MC l yX0_of wsX0_of 7 139 D (tyIJ cI cJ) [.ref (h 0), .int (q), .int (v)] (wA cI h σ) (wA cI h σ) (exT K) (some (.int (r_of σ np nt ni (cl q) (cl v)))) (nT K) := by
  have hI0 := hI
  obtain ⟨⟨hnp, hnp6⟩, ⟨hnt, hnt12⟩, ⟨hno, hno10⟩, ⟨hni, hni8⟩, hPT, hLC, hLH⟩ := hI
  refine MC.ofG (cc := cX0_of) (maxL := 3) (ret := (some .int)) [(0, .ref (h 0)), (1, .int (q)), (2, .int (v))] (by decide) rfl (Nat.le_of_ble_eq_true rfl) rfl ?_
  intro p e s m args below meth c C hr hout
  have hin : ∀ w ∈ wsX00, w ∈ wsX0_of := fun w h => by first | exact List.mem_cons_of_mem _ (List.mem_append_right _ h) | exact List.mem_cons_of_mem _ (List.mem_append_left _ (List.mem_append_right _ h)) | exact List.mem_cons_of_mem _ (List.mem_append_left _ (List.mem_append_left _ (List.mem_append_right _ h))) | exact List.mem_cons_of_mem _ (List.mem_append_left _ (List.mem_append_left _ (List.mem_append_left _ (List.mem_append_right _ h)))) | exact List.mem_cons_of_mem _ (List.mem_append_left _ (List.mem_append_left _ (List.mem_append_left _ (List.mem_append_left _ (List.mem_append_right _ h)))))
  refine g_iload_n 1 C rfl dX0_of_0 rfl ?_
  refine g_aload_n 0 C rfl dX0_of_1 rfl ?_
  refine g_get (C0 := RX0) (T := TX0) (N := 17) 0 0 3 (.int (σ.1 3)) C hin rfl rfl (by decide) (by decide +kernel) rfl dX0_of_2 ?_
  refine g_is (nI ni) hni ?_
  by_cases c_5_1 : bad q (nI (ni))
  ·
    obtain rfl : K = 1 := hK.trans (by simp [th_of, c_5_1])
    exact g_callSX (na := 2) (av := [.int (q), .int (nI (ni))]) (c_checkNumber l D cI cJ hst _ q (nI (ni)) 1 (if_pos c_5_1).symm) C gX0_of_X0_checkNumber rfl (by decide +kernel) rfl ⟨by decide, by decide⟩ rfl (Nat.le_of_ble_eq_true rfl) ⟨by decide, by decide⟩ hout (by decide) (by decide) rfl dX0_of_5
  refine g_callS0 (na := 2) (av := [.int (q), .int (nI (ni))]) (c_checkNumber l D cI cJ hst _ q (nI (ni)) 0 (if_neg c_5_1).symm) C gX0_of_X0_checkNumber rfl (by decide +kernel) rfl ⟨Nat.le_of_ble_eq_true rfl, Nat.le_of_ble_eq_true rfl⟩ rfl (Nat.le_of_ble_eq_true rfl) ⟨Nat.zero_le _, Nat.zero_le _⟩ rfl dX0_of_5 ?_
  obtain ⟨q', hq', rfl⟩ := nb_of (N := ni) rfl (by omega) c_5_1
  have kq' : cl (nI q') = q' := cl_nI (by omega)
  refine g_iload_n 2 C rfl dX0_of_8 rfl ?_
  refine g_iconst 0 C dX0_of_9 (by decide) ?_
  refine g_bipush 8 C dX0_of_10 (by decide) ?_
  by_cases c_12_2 : out (v) (0) (8)
  ·
    obtain rfl : K = 2 := hK.trans (by simp [th_of, c_5_1, c_12_2, kq'])
    exact g_callSX (na := 3) (av := [.int (v), .int (0), .int (8)]) (c_checkRange l D cI cJ hst _ (v) (0) (8) 2 (if_pos c_12_2).symm) C gX0_of_X0_checkRange rfl (by decide +kernel) rfl ⟨by decide, by decide⟩ rfl (Nat.le_of_ble_eq_true rfl) ⟨by decide, by decide⟩ hout (by decide) (by decide) rfl dX0_of_12
  refine g_callS0 (na := 3) (av := [.int (v), .int (0), .int (8)]) (c_checkRange l D cI cJ hst _ (v) (0) (8) 0 (if_neg c_12_2).symm) C gX0_of_X0_checkRange rfl (by decide +kernel) rfl ⟨Nat.le_of_ble_eq_true rfl, Nat.le_of_ble_eq_true rfl⟩ rfl (Nat.le_of_ble_eq_true rfl) ⟨Nat.zero_le _, Nat.zero_le _⟩ rfl dX0_of_12 ?_
  have hv1 := out_lo c_12_2
  obtain ⟨v', hv', rfl⟩ := out_nat (M := 8) rfl (by decide) c_12_2
  have kv' : cl (nI v') = v' := cl_nI (by omega)
  refine g_iload_n 2 C rfl dX0_of_15 rfl ?_
  by_cases e0 : v' = 0
  ·
    subst e0
    refine g_tableIn (off := 40) 56 C dX0_of_16 (by decide +kernel) (by decide +kernel) (by decide +kernel) (by decide) ?_
    refine g_aload_n 0 C rfl dX0_of_56 rfl ?_
    refine g_get (C0 := RX0) (T := TX0) (N := 17) 0 0 9 (.ref (h 5)) C hin rfl rfl (by decide) (by decide +kernel) rfl dX0_of_57 ?_
    refine g_iload_n 1 C rfl dX0_of_60 rfl ?_
    refine g_ialdN (cA := cI) (n := 8) (a := h 5) (f := σ.2 4) q' 5 0 C rfl rfl (by omega) (by decide) dX0_of_61 ?_
    obtain rfl : K = 0 := hK.trans (by simp [th_of, c_5_1, c_12_2, kq', kv'])
    exact g_iret C hr rfl dX0_of_62 (Nat.zero_le _) (Nat.zero_le _) rfl (by rw [kq', kv']; rfl) rfl
  by_cases e1 : v' = 1
  ·
    subst e1
    refine g_tableIn (off := 47) 63 C dX0_of_16 (by decide +kernel) (by decide +kernel) (by decide +kernel) (by decide) ?_
    refine g_aload_n 0 C rfl dX0_of_63 rfl ?_
    refine g_get (C0 := RX0) (T := TX0) (N := 17) 0 0 10 (.ref (h 6)) C hin rfl rfl (by decide) (by decide +kernel) rfl dX0_of_64 ?_
    refine g_iload_n 1 C rfl dX0_of_67 rfl ?_
    refine g_ialdN (cA := cI) (n := 8) (a := h 6) (f := σ.2 5) q' 6 0 C rfl rfl (by omega) (by decide) dX0_of_68 ?_
    obtain rfl : K = 0 := hK.trans (by simp [th_of, c_5_1, c_12_2, kq', kv'])
    exact g_iret C hr rfl dX0_of_69 (Nat.zero_le _) (Nat.zero_le _) rfl (by rw [kq', kv']; rfl) rfl
  by_cases e2 : v' = 2
  ·
    subst e2
    refine g_tableIn (off := 54) 70 C dX0_of_16 (by decide +kernel) (by decide +kernel) (by decide +kernel) (by decide) ?_
    refine g_aload_n 0 C rfl dX0_of_70 rfl ?_
    refine g_iload_n 1 C rfl dX0_of_71 rfl ?_
    refine g_callV0 (C0 := RX0) (T := TX0) (N := 17) (ci := 0) (na := 1) (As := [.int (nI (q'))]) (c_valueOf l D cI cJ h σ np nt no ni hI0 q' (by omega)) C gX0_of_X0_valueOf rfl (by decide +kernel) rfl ⟨Nat.le_of_ble_eq_true rfl, Nat.le_of_ble_eq_true rfl⟩ rfl rfl rfl (Nat.le_of_ble_eq_true rfl) ⟨Nat.zero_le _, Nat.zero_le _⟩ rfl dX0_of_72 ?_
    obtain rfl : K = 0 := hK.trans (by simp [th_of, c_5_1, c_12_2, kq', kv'])
    exact g_iret C hr rfl dX0_of_75 (Nat.zero_le _) (Nat.zero_le _) rfl (by rw [kq', kv']; rfl) rfl
  by_cases e3 : v' = 3
  ·
    subst e3
    refine g_tableIn (off := 60) 76 C dX0_of_16 (by decide +kernel) (by decide +kernel) (by decide +kernel) (by decide) ?_
    refine g_aload_n 0 C rfl dX0_of_76 rfl ?_
    refine g_iload_n 1 C rfl dX0_of_77 rfl ?_
    refine g_callV0 (C0 := RX0) (T := TX0) (N := 17) (ci := 0) (na := 1) (As := [.int (nI (q'))]) (c_mainPigmentOf l D cI cJ h σ np nt no ni hI0 q' (by omega)) C gX0_of_X0_mainPigmentOf rfl (by decide +kernel) rfl ⟨Nat.le_of_ble_eq_true rfl, Nat.le_of_ble_eq_true rfl⟩ rfl rfl rfl (Nat.le_of_ble_eq_true rfl) ⟨Nat.zero_le _, Nat.zero_le _⟩ rfl dX0_of_78 ?_
    obtain rfl : K = 0 := hK.trans (by simp [th_of, c_5_1, c_12_2, kq', kv'])
    exact g_iret C hr rfl dX0_of_81 (Nat.zero_le _) (Nat.zero_le _) rfl (by rw [kq', kv']; rfl) rfl
  by_cases e4 : v' = 4
  ·
    subst e4
    refine g_tableIn (off := 66) 82 C dX0_of_16 (by decide +kernel) (by decide +kernel) (by decide +kernel) (by decide) ?_
    refine g_aload_n 0 C rfl dX0_of_82 rfl ?_
    refine g_iload_n 1 C rfl dX0_of_83 rfl ?_
    refine g_callV0 (C0 := RX0) (T := TX0) (N := 17) (ci := 0) (na := 1) (As := [.int (nI (q'))]) (c_isLent l D cI cJ h σ np nt no ni hI0 q' (by omega)) C gX0_of_X0_isLent rfl (by decide +kernel) rfl ⟨Nat.le_of_ble_eq_true rfl, Nat.le_of_ble_eq_true rfl⟩ rfl rfl rfl (Nat.le_of_ble_eq_true rfl) ⟨Nat.zero_le _, Nat.zero_le _⟩ rfl dX0_of_84 ?_
    refine g_if_eq 99 C dX0_of_87 (by decide) (fun c_87_3 => ?_) (fun c_87_3 => ?_)
    ·
      refine g_iconst (-1) C dX0_of_99 (by decide) ?_
      obtain rfl : K = 0 := hK.trans (by simp [th_of, c_5_1, c_12_2, c_87_3, kq', kv'])
      exact g_iret C hr rfl dX0_of_100 (Nat.zero_le _) (Nat.zero_le _) rfl (by rw [kq', kv']; exact congrArg (fun x => some (Value.int x)) (if_neg (bI_eq c_87_3)).symm) rfl
    ·
      refine g_aload_n 0 C rfl dX0_of_90 rfl ?_
      refine g_get (C0 := RX0) (T := TX0) (N := 17) 0 0 13 (.ref (h 9)) C hin rfl rfl (by decide) (by decide +kernel) rfl dX0_of_91 ?_
      refine g_iload_n 1 C rfl dX0_of_94 rfl ?_
      refine g_ialdN (cA := cI) (n := 8) (a := h 9) (f := σ.2 8) q' 9 0 C rfl rfl (by omega) (by decide) dX0_of_95 ?_
      refine g_goto 100 C dX0_of_96 (by decide) ?_
      obtain rfl : K = 0 := hK.trans (by simp [th_of, c_5_1, c_12_2, c_87_3, kq', kv'])
      exact g_iret C hr rfl dX0_of_100 (Nat.zero_le _) (Nat.zero_le _) rfl (by rw [kq', kv']; exact congrArg (fun x => some (Value.int x)) (if_pos (bI_ne c_87_3)).symm) rfl
  by_cases e5 : v' = 5
  ·
    subst e5
    refine g_tableIn (off := 85) 101 C dX0_of_16 (by decide +kernel) (by decide +kernel) (by decide +kernel) (by decide) ?_
    refine g_aload_n 0 C rfl dX0_of_101 rfl ?_
    refine g_get (C0 := RX0) (T := TX0) (N := 17) 0 0 12 (.ref (h 8)) C hin rfl rfl (by decide) (by decide +kernel) rfl dX0_of_102 ?_
    refine g_iload_n 1 C rfl dX0_of_105 rfl ?_
    refine g_ialdN (cA := cI) (n := 8) (a := h 8) (f := σ.2 7) q' 8 0 C rfl rfl (by omega) (by decide) dX0_of_106 ?_
    obtain rfl : K = 0 := hK.trans (by simp [th_of, c_5_1, c_12_2, kq', kv'])
    exact g_iret C hr rfl dX0_of_107 (Nat.zero_le _) (Nat.zero_le _) rfl (by rw [kq', kv']; rfl) rfl
  refine g_tableOut 108 C dX0_of_16 (Or.inr (by rw [nI_toInt (by omega)]; omega)) (by decide) ?_
  refine g_aload_n 0 C rfl dX0_of_108 rfl ?_
  refine g_iload_n 1 C rfl dX0_of_109 rfl ?_
  refine g_iload_n 2 C rfl dX0_of_110 rfl ?_
  refine g_bipush 6 C dX0_of_111 (by decide) ?_
  refine g_isubN v' 6 C (by omega) dX0_of_113 ?_
  refine g_callV0 (C0 := RX0) (T := TX0) (N := 17) (ci := 0) (na := 2) (As := [.int (nI (q')), .int (nI (v' - 6))]) (c_lookOf l D cI cJ h σ np nt no ni hI0 q' (v' - 6) (by omega) (by omega)) C gX0_of_X0_lookOf rfl (by decide +kernel) rfl ⟨Nat.le_of_ble_eq_true rfl, Nat.le_of_ble_eq_true rfl⟩ rfl rfl rfl (Nat.le_of_ble_eq_true rfl) ⟨Nat.zero_le _, Nat.zero_le _⟩ rfl dX0_of_114 ?_
  obtain rfl : K = 0 := hK.trans (by simp [th_of, c_5_1, c_12_2, kq', kv'])
  exact g_iret C hr rfl dX0_of_117 (Nat.zero_le _) (Nat.zero_le _) rfl (by rw [kq', kv', r_of, if_neg e0, if_neg e1, if_neg e2, if_neg e3, if_neg e4, if_neg e5]) rfl
set_option maxRecDepth 100000 in
set_option maxHeartbeats 4000000 in
theorem c_where (l : Launch) (D : va_G) (cI cJ : ClassId) (hst : l.stackTraces = false) (h : Nat → Nat) (σ : gS) (np nt no ni : Nat) (hI : iA σ np nt no ni) (t v : Int32) (K : Nat) (hK : K = th_where nt t v) : MC l yX0_where wsX0_where 7 112 D (tyIJ cI cJ) [.ref (h 0), .int (t), .int (v)] (wA cI h σ) (wA cI h σ) (exT K) (some (.int (r_where σ (cl t) (cl v)))) (nT K) := by
  have hI0 := hI
  obtain ⟨⟨hnp, hnp6⟩, ⟨hnt, hnt12⟩, ⟨hno, hno10⟩, ⟨hni, hni8⟩, hPT, hLC, hLH⟩ := hI
  refine MC.ofG (cc := cX0_where) (maxL := 3) (ret := (some .int)) [(0, .ref (h 0)), (1, .int (t)), (2, .int (v))] (by decide) rfl (Nat.le_of_ble_eq_true rfl) rfl ?_
  intro p e s m args below meth c C hr hout
  have hin : ∀ w ∈ wsX00, w ∈ wsX0_where := fun w h => by first | exact List.mem_cons_of_mem _ (List.mem_append_right _ h) | exact List.mem_cons_of_mem _ (List.mem_append_left _ (List.mem_append_right _ h)) | exact List.mem_cons_of_mem _ (List.mem_append_left _ (List.mem_append_left _ (List.mem_append_right _ h))) | exact List.mem_cons_of_mem _ (List.mem_append_left _ (List.mem_append_left _ (List.mem_append_left _ (List.mem_append_right _ h)))) | exact List.mem_cons_of_mem _ (List.mem_append_left _ (List.mem_append_left _ (List.mem_append_left _ (List.mem_append_left _ (List.mem_append_right _ h)))))
  refine g_iload_n 1 C rfl dX0_where_0 rfl ?_
  refine g_aload_n 0 C rfl dX0_where_1 rfl ?_
  refine g_get (C0 := RX0) (T := TX0) (N := 17) 0 0 1 (.int (σ.1 1)) C hin rfl rfl (by decide) (by decide +kernel) rfl dX0_where_2 ?_
  refine g_is (nI nt) hnt ?_
  by_cases c_5_1 : bad t (nI (nt))
  ·
    obtain rfl : K = 1 := hK.trans (by simp [th_where, c_5_1])
    exact g_callSX (na := 2) (av := [.int (t), .int (nI (nt))]) (c_checkNumber l D cI cJ hst _ t (nI (nt)) 1 (if_pos c_5_1).symm) C gX0_where_X0_checkNumber rfl (by decide +kernel) rfl ⟨by decide, by decide⟩ rfl (Nat.le_of_ble_eq_true rfl) ⟨by decide, by decide⟩ hout (by decide) (by decide) rfl dX0_where_5
  refine g_callS0 (na := 2) (av := [.int (t), .int (nI (nt))]) (c_checkNumber l D cI cJ hst _ t (nI (nt)) 0 (if_neg c_5_1).symm) C gX0_where_X0_checkNumber rfl (by decide +kernel) rfl ⟨Nat.le_of_ble_eq_true rfl, Nat.le_of_ble_eq_true rfl⟩ rfl (Nat.le_of_ble_eq_true rfl) ⟨Nat.zero_le _, Nat.zero_le _⟩ rfl dX0_where_5 ?_
  obtain ⟨t', ht', rfl⟩ := nb_of (N := nt) rfl (by omega) c_5_1
  have kt' : cl (nI t') = t' := cl_nI (by omega)
  refine g_iload_n 2 C rfl dX0_where_8 rfl ?_
  refine g_iconst 0 C dX0_where_9 (by decide) ?_
  refine g_iconst 3 C dX0_where_10 (by decide) ?_
  by_cases c_11_2 : out (v) (0) (3)
  ·
    obtain rfl : K = 2 := hK.trans (by simp [th_where, c_5_1, c_11_2, kt'])
    exact g_callSX (na := 3) (av := [.int (v), .int (0), .int (3)]) (c_checkRange l D cI cJ hst _ (v) (0) (3) 2 (if_pos c_11_2).symm) C gX0_where_X0_checkRange rfl (by decide +kernel) rfl ⟨by decide, by decide⟩ rfl (Nat.le_of_ble_eq_true rfl) ⟨by decide, by decide⟩ hout (by decide) (by decide) rfl dX0_where_11
  refine g_callS0 (na := 3) (av := [.int (v), .int (0), .int (3)]) (c_checkRange l D cI cJ hst _ (v) (0) (3) 0 (if_neg c_11_2).symm) C gX0_where_X0_checkRange rfl (by decide +kernel) rfl ⟨Nat.le_of_ble_eq_true rfl, Nat.le_of_ble_eq_true rfl⟩ rfl (Nat.le_of_ble_eq_true rfl) ⟨Nat.zero_le _, Nat.zero_le _⟩ rfl dX0_where_11 ?_
  have hv1 := out_lo c_11_2
  obtain ⟨v', hv', rfl⟩ := out_nat (M := 3) rfl (by decide) c_11_2
  have kv' : cl (nI v') = v' := cl_nI (by omega)
  refine g_iload_n 2 C rfl dX0_where_14 rfl ?_
  by_cases e0 : v' = 0
  ·
    subst e0
    refine g_tableIn (off := 25) 40 C dX0_where_15 (by decide +kernel) (by decide +kernel) (by decide +kernel) (by decide) ?_
    refine g_aload_n 0 C rfl dX0_where_40 rfl ?_
    refine g_get (C0 := RX0) (T := TX0) (N := 17) 0 0 7 (.ref (h 3)) C hin rfl rfl (by decide) (by decide +kernel) rfl dX0_where_41 ?_
    refine g_iload_n 1 C rfl dX0_where_44 rfl ?_
    refine g_ialdN (cA := cI) (n := 12) (a := h 3) (f := σ.2 2) t' 3 0 C rfl rfl (by omega) (by decide) dX0_where_45 ?_
    obtain rfl : K = 0 := hK.trans (by simp [th_where, c_5_1, c_11_2, kt', kv'])
    exact g_iret C hr rfl dX0_where_46 (Nat.zero_le _) (Nat.zero_le _) rfl (by rw [kt', kv']; rfl) rfl
  by_cases e1 : v' = 1
  ·
    subst e1
    refine g_tableIn (off := 32) 47 C dX0_where_15 (by decide +kernel) (by decide +kernel) (by decide +kernel) (by decide) ?_
    refine g_aload_n 0 C rfl dX0_where_47 rfl ?_
    refine g_iload_n 1 C rfl dX0_where_48 rfl ?_
    refine g_iconst 0 C dX0_where_49 (by decide) ?_
    refine g_bipush 10 C dX0_where_50 (by decide) ?_
    refine g_callV0 (C0 := RX0) (T := TX0) (N := 17) (ci := 0) (na := 3) (As := [.int (nI (t')), .int (0), .int (10)]) (c_sumOfTube l D cI cJ h σ np nt no ni hI0 t' 0 10 (by omega) (by decide)) C gX0_where_X0_sumOfTube rfl (by decide +kernel) rfl ⟨Nat.le_of_ble_eq_true rfl, Nat.le_of_ble_eq_true rfl⟩ rfl rfl rfl (Nat.le_of_ble_eq_true rfl) ⟨Nat.zero_le _, Nat.zero_le _⟩ rfl dX0_where_52 ?_
    obtain rfl : K = 0 := hK.trans (by simp [th_where, c_5_1, c_11_2, kt', kv'])
    exact g_iret C hr rfl dX0_where_55 (Nat.zero_le _) (Nat.zero_le _) rfl (by rw [kt', kv']; rfl) rfl
  by_cases e2 : v' = 2
  ·
    subst e2
    refine g_tableIn (off := 41) 56 C dX0_where_15 (by decide +kernel) (by decide +kernel) (by decide +kernel) (by decide) ?_
    refine g_aload_n 0 C rfl dX0_where_56 rfl ?_
    refine g_iload_n 1 C rfl dX0_where_57 rfl ?_
    refine g_bipush 10 C dX0_where_58 (by decide) ?_
    refine g_bipush 106 C dX0_where_60 (by decide) ?_
    refine g_callV0 (C0 := RX0) (T := TX0) (N := 17) (ci := 0) (na := 3) (As := [.int (nI (t')), .int (10), .int (106)]) (c_sumOfTube l D cI cJ h σ np nt no ni hI0 t' 10 96 (by omega) (by decide)) C gX0_where_X0_sumOfTube rfl (by decide +kernel) rfl ⟨Nat.le_of_ble_eq_true rfl, Nat.le_of_ble_eq_true rfl⟩ rfl rfl rfl (Nat.le_of_ble_eq_true rfl) ⟨Nat.zero_le _, Nat.zero_le _⟩ rfl dX0_where_62 ?_
    obtain rfl : K = 0 := hK.trans (by simp [th_where, c_5_1, c_11_2, kt', kv'])
    exact g_iret C hr rfl dX0_where_65 (Nat.zero_le _) (Nat.zero_le _) rfl (by rw [kt', kv']; rfl) rfl
  refine g_tableOut 66 C dX0_where_15 (Or.inr (by rw [nI_toInt (by omega)]; omega)) (by decide) ?_
  refine g_aload_n 0 C rfl dX0_where_66 rfl ?_
  refine g_iload_n 1 C rfl dX0_where_67 rfl ?_
  refine g_bipush 106 C dX0_where_68 (by decide) ?_
  refine g_bipush 107 C dX0_where_70 (by decide) ?_
  refine g_callV0 (C0 := RX0) (T := TX0) (N := 17) (ci := 0) (na := 3) (As := [.int (nI (t')), .int (106), .int (107)]) (c_sumOfTube l D cI cJ h σ np nt no ni hI0 t' 106 1 (by omega) (by decide)) C gX0_where_X0_sumOfTube rfl (by decide +kernel) rfl ⟨Nat.le_of_ble_eq_true rfl, Nat.le_of_ble_eq_true rfl⟩ rfl rfl rfl (Nat.le_of_ble_eq_true rfl) ⟨Nat.zero_le _, Nat.zero_le _⟩ rfl dX0_where_72 ?_
  obtain rfl : K = 0 := hK.trans (by simp [th_where, c_5_1, c_11_2, kt', kv'])
  exact g_iret C hr rfl dX0_where_75 (Nat.zero_le _) (Nat.zero_le _) rfl (by rw [kt', kv', r_where, if_neg e0, if_neg e1, if_neg e2]) rfl
set_option maxRecDepth 100000 in
set_option maxHeartbeats 4000000 in
theorem c_recipe (l : Launch) (D : va_G) (cI cJ : ClassId) (hst : l.stackTraces = false) (h : Nat → Nat) (σ : gS) (np nt no ni : Nat) (hI : iA σ np nt no ni) (r g b : Int32) (K : Nat) (hK : K = th_recipe r g b) : MC l yX0_recipe wsX0_recipe 8 134 D (tyIJ cI cJ) [.ref (h 0), .int (r), .int (g), .int (b)] (wA cI h σ) (wA cI h σ) (exT K) (some (.int (rA σ r g b nt nt).1)) (nT K) := by
  have hI0 := hI
  obtain ⟨⟨hnp, hnp6⟩, ⟨hnt, hnt12⟩, ⟨hno, hno10⟩, ⟨hni, hni8⟩, hPT, hLC, hLH⟩ := hI
  refine MC.ofG (cc := cX0_recipe) (maxL := 10) (ret := (some .int)) [(0, .ref (h 0)), (1, .int (r)), (2, .int (g)), (3, .int (b))] (by decide) rfl (Nat.le_of_ble_eq_true rfl) rfl ?_
  intro p e s m args below meth c C hr hout
  have hin : ∀ w ∈ wsX00, w ∈ wsX0_recipe := fun w h => by first | exact List.mem_cons_of_mem _ (List.mem_append_right _ h) | exact List.mem_cons_of_mem _ (List.mem_append_left _ (List.mem_append_right _ h)) | exact List.mem_cons_of_mem _ (List.mem_append_left _ (List.mem_append_left _ (List.mem_append_right _ h))) | exact List.mem_cons_of_mem _ (List.mem_append_left _ (List.mem_append_left _ (List.mem_append_left _ (List.mem_append_right _ h)))) | exact List.mem_cons_of_mem _ (List.mem_append_left _ (List.mem_append_left _ (List.mem_append_left _ (List.mem_append_left _ (List.mem_append_right _ h)))))
  refine g_iload_n 1 C rfl dX0_recipe_0 rfl ?_
  refine g_iload_n 2 C rfl dX0_recipe_1 rfl ?_
  refine g_iload_n 3 C rfl dX0_recipe_2 rfl ?_
  by_cases c_3_1 : out (r) 0 255 ∨ out (g) 0 255 ∨ out (b) 0 255
  ·
    obtain rfl : K = 2 := hK.trans (by simp only [th_recipe, c_3_1, if_true, if_false])
    exact g_callSX (na := 3) (av := [.int (r), .int (g), .int (b)]) (c_checkColour l D cI cJ hst _ (r) (g) (b) 2 (if_pos c_3_1).symm) C gX0_recipe_X0_checkColour rfl (by decide +kernel) rfl ⟨by decide, by decide⟩ rfl (Nat.le_of_ble_eq_true rfl) ⟨by decide, by decide⟩ hout (by decide) (by decide) rfl dX0_recipe_3
  refine g_callS0 (na := 3) (av := [.int (r), .int (g), .int (b)]) (c_checkColour l D cI cJ hst _ (r) (g) (b) 0 (if_neg c_3_1).symm) C gX0_recipe_X0_checkColour rfl (by decide +kernel) rfl ⟨Nat.le_of_ble_eq_true rfl, Nat.le_of_ble_eq_true rfl⟩ rfl (Nat.le_of_ble_eq_true rfl) ⟨Nat.zero_le _, Nat.zero_le _⟩ rfl dX0_recipe_3 ?_
  refine g_iconst (-1) C dX0_recipe_6 (by decide) ?_
  refine g_istore [(4, .int ((-1))), (0, .ref (h 0)), (1, .int (r)), (2, .int (g)), (3, .int (b))] C dX0_recipe_7 (by decide) rfl ?_
  refine g_iconst 0 C dX0_recipe_9 (by decide) ?_
  refine g_istore [(5, .int (0)), (4, .int ((-1))), (0, .ref (h 0)), (1, .int (r)), (2, .int (g)), (3, .int (b))] C dX0_recipe_10 (by decide) rfl ?_
  refine g_iconst 0 C dX0_recipe_12 (by decide) ?_
  refine g_istore [(6, .int (0)), (5, .int (0)), (4, .int ((-1))), (0, .ref (h 0)), (1, .int (r)), (2, .int (g)), (3, .int (b))] C dX0_recipe_13 (by decide) rfl ?_
  have loop_15 : ∀ (fu : Nat) (i : Nat), i ≤ nt → nt + 1 ≤ i + fu → G p l e ({ frames := 8, cells := (nT K), slots := 6 * (nT K), locals := 134 } : Room) s m args below meth c D (va_A (wA cI h σ) s.heap.size) 10 0 0 (gQ below D (wA cI h σ) (wA cI h σ) (exT K) (some (.int (rA σ r g b nt nt).1)) (nT K) args s) (wA cI h σ) [(0, .ref (h 0)), (1, .int (r)), (2, .int (g)), (3, .int (b)), (4, .int ((rA σ r g b nt i).1)), (5, .int ((rA σ r g b nt i).2)), (6, .int (nI (i)))] 15 [] := by
    intro fu
    induction fu with
    | zero => intro i hi hf; exact absurd True.intro (by omega)
    | succ fu ih_15 =>
      intro i hi hf
      refine g_iload 6 C rfl dX0_recipe_15 ?_
      refine g_aload_n 0 C rfl dX0_recipe_17 rfl ?_
      refine g_get (C0 := RX0) (T := TX0) (N := 17) 0 0 1 (.int (σ.1 1)) C hin rfl rfl (by decide) (by decide +kernel) rfl dX0_recipe_18 ?_
      refine g_is (nI nt) hnt ?_
      refine g_icmp_ge 173 C dX0_recipe_21 (by decide) (fun c_21_2 => ?_) (fun c_21_2 => ?_)
      ·
        have d_21_2 : nt ≤ i := (nI_leI (a := nt) (b := i) (by omega) (by omega)).mp c_21_2
        refine g_iload 4 C rfl dX0_recipe_173 ?_
        obtain rfl : K = 0 := hK.trans (by simp only [th_recipe, c_3_1, if_true, if_false])
        exact g_iret C hr rfl dX0_recipe_175 (Nat.zero_le _) (Nat.zero_le _) rfl (by rw [show nt = i by omega]) rfl
      ·
        have d_21_2 : ¬ nt ≤ i := fun zz => c_21_2 ((nI_leI (a := nt) (b := i) (by omega) (by omega)).mpr zz)
        refine g_iload 6 C rfl dX0_recipe_24 ?_
        refine g_istore [(7, .int (nI (i))), (0, .ref (h 0)), (1, .int (r)), (2, .int (g)), (3, .int (b)), (4, .int ((rA σ r g b nt i).1)), (5, .int ((rA σ r g b nt i).2)), (6, .int (nI (i)))] C dX0_recipe_26 (by decide) rfl ?_
        have loop_28 : ∀ (fu : Nat) (k : Nat), i + k ≤ nt → nt + 1 ≤ i + k + fu → G p l e ({ frames := 8, cells := (nT K), slots := 6 * (nT K), locals := 134 } : Room) s m args below meth c D (va_A (wA cI h σ) s.heap.size) 10 0 0 (gQ below D (wA cI h σ) (wA cI h σ) (exT K) (some (.int (rA σ r g b nt nt).1)) (nT K) args s) (wA cI h σ) [(0, .ref (h 0)), (1, .int (r)), (2, .int (g)), (3, .int (b)), (4, .int ((rB σ r g b i (rA σ r g b nt i) k).1)), (5, .int ((rB σ r g b i (rA σ r g b nt i) k).2)), (6, .int (nI (i))), (7, .int (nI (i + k)))] 28 [] := by
          intro fu
          induction fu with
          | zero => intro k hk hf2; exact absurd True.intro (by omega)
          | succ fu ih_28 =>
            intro k hk hf2
            refine g_iload 7 C rfl dX0_recipe_28 ?_
            refine g_aload_n 0 C rfl dX0_recipe_30 rfl ?_
            refine g_get (C0 := RX0) (T := TX0) (N := 17) 0 0 1 (.int (σ.1 1)) C hin rfl rfl (by decide) (by decide +kernel) rfl dX0_recipe_31 ?_
            refine g_is (nI nt) hnt ?_
            refine g_icmp_ge 167 C dX0_recipe_34 (by decide) (fun c_34_3 => ?_) (fun c_34_3 => ?_)
            ·
              have d_34_3 : nt ≤ (i + k) := (nI_leI (a := nt) (b := (i + k)) (by omega) (by omega)).mp c_34_3
              have ea : rA σ r g b nt (i + 1) = rB σ r g b i (rA σ r g b nt i) k := by rw [rA, show nt - i = k by omega]
              refine g_iincN 6 i 1 [(6, .int (nI (i + 1))), (0, .ref (h 0)), (1, .int (r)), (2, .int (g)), (3, .int (b)), (4, .int ((rB σ r g b i (rA σ r g b nt i) k).1)), (5, .int ((rB σ r g b i (rA σ r g b nt i) k).2)), (7, .int (nI (i + k)))] C dX0_recipe_167 rfl (by decide) (by decide) rfl ?_
              refine g_goto 15 C dX0_recipe_170 (by decide) ?_
              refine g_lv [1, 2, 3, 4, 5, 6, 0] [(0, .ref (h 0)), (1, .int (r)), (2, .int (g)), (3, .int (b)), (4, .int ((rB σ r g b i (rA σ r g b nt i) k).1)), (5, .int ((rB σ r g b i (rA σ r g b nt i) k).2)), (6, .int (nI (i + 1)))] rfl ?_
              have hx := ih_15 (i + 1) (by omega) (by omega)
              rw [ea] at hx
              exact hx
            ·
              have d_34_3 : ¬ nt ≤ (i + k) := fun zz => c_34_3 ((nI_leI (a := nt) (b := (i + k)) (by omega) (by omega)).mpr zz)
              refine g_aload_n 0 C rfl dX0_recipe_37 rfl ?_
              refine g_get (C0 := RX0) (T := TX0) (N := 17) 0 0 7 (.ref (h 3)) C hin rfl rfl (by decide) (by decide +kernel) rfl dX0_recipe_38 ?_
              refine g_iload 6 C rfl dX0_recipe_41 ?_
              refine g_ialdN (cA := cI) (n := 12) (a := h 3) (f := σ.2 2) i 3 0 C rfl rfl (by omega) (by decide) dX0_recipe_43 ?_
              refine g_if_eq 161 C dX0_recipe_44 (by decide) (fun c_44_4 => ?_) (fun c_44_4 => ?_)
              ·
                have eb : rB σ r g b i (rA σ r g b nt i) (k + 1) = rB σ r g b i (rA σ r g b nt i) k := if_pos (Or.inl c_44_4)
                refine g_iincN 7 (i + k) 1 [(7, .int (nI ((i + k) + 1))), (0, .ref (h 0)), (1, .int (r)), (2, .int (g)), (3, .int (b)), (4, .int ((rB σ r g b i (rA σ r g b nt i) k).1)), (5, .int ((rB σ r g b i (rA σ r g b nt i) k).2)), (6, .int (nI (i)))] C dX0_recipe_161 rfl (by decide) (by decide) rfl ?_
                refine g_goto 28 C dX0_recipe_164 (by decide) ?_
                refine g_lv [1, 2, 3, 4, 5, 6, 7, 0] [(0, .ref (h 0)), (1, .int (r)), (2, .int (g)), (3, .int (b)), (4, .int ((rB σ r g b i (rA σ r g b nt i) k).1)), (5, .int ((rB σ r g b i (rA σ r g b nt i) k).2)), (6, .int (nI (i))), (7, .int (nI ((i + k) + 1)))] rfl ?_
                have hx := ih_28 (k + 1) (by omega) (by omega)
                rw [eb] at hx
                exact hx
              ·
                have za := c_44_4
                refine g_aload_n 0 C rfl dX0_recipe_47 rfl ?_
                refine g_get (C0 := RX0) (T := TX0) (N := 17) 0 0 7 (.ref (h 3)) C hin rfl rfl (by decide) (by decide +kernel) rfl dX0_recipe_48 ?_
                refine g_iload 7 C rfl dX0_recipe_51 ?_
                refine g_ialdN (cA := cI) (n := 12) (a := h 3) (f := σ.2 2) (i + k) 3 0 C rfl rfl (by omega) (by decide) dX0_recipe_53 ?_
                refine g_if_ne 60 C dX0_recipe_54 (by decide) (fun c_54_5 => ?_) (fun c_54_5 => ?_)
                ·
                  have zb := c_54_5
                  refine g_iconst 0 C dX0_recipe_60 (by decide) ?_
                  refine g_istore [(8, .int (0)), (0, .ref (h 0)), (1, .int (r)), (2, .int (g)), (3, .int (b)), (4, .int ((rB σ r g b i (rA σ r g b nt i) k).1)), (5, .int ((rB σ r g b i (rA σ r g b nt i) k).2)), (6, .int (nI (i))), (7, .int (nI (i + k)))] C dX0_recipe_61 (by decide) rfl ?_
                  have loop_63 : ∀ (fu : Nat) (q : Nat), q ≤ 5 → 6 ≤ q + fu → G p l e ({ frames := 8, cells := (nT K), slots := 6 * (nT K), locals := 134 } : Room) s m args below meth c D (va_A (wA cI h σ) s.heap.size) 10 0 0 (gQ below D (wA cI h σ) (wA cI h σ) (exT K) (some (.int (rA σ r g b nt nt).1)) (nT K) args s) (wA cI h σ) [(0, .ref (h 0)), (1, .int (r)), (2, .int (g)), (3, .int (b)), (4, .int ((rP σ r g b i (i + k) (rB σ r g b i (rA σ r g b nt i) k) q).1)), (5, .int ((rP σ r g b i (i + k) (rB σ r g b i (rA σ r g b nt i) k) q).2)), (6, .int (nI (i))), (7, .int (nI (i + k))), (8, .int (nI (q)))] 63 [] := by
                    intro fu
                    induction fu with
                    | zero => intro q hq hf3; exact absurd True.intro (by omega)
                    | succ fu ih_63 =>
                      intro q hq hf3
                      refine g_iload 8 C rfl dX0_recipe_63 ?_
                      refine g_iconst 4 C dX0_recipe_65 (by decide) ?_
                      refine g_icmp_gt 161 C dX0_recipe_66 (by decide) (fun c_66_6 => ?_) (fun c_66_6 => ?_)
                      ·
                        have d_66_6 : 4 < q := (nI_ltI (a := 4) (b := q) (by omega) (by omega)).mp c_66_6
                        have eb : rB σ r g b i (rA σ r g b nt i) (k + 1) = rP σ r g b i (i + k) (rB σ r g b i (rA σ r g b nt i) k) q := (if_neg (fun z => z.elim za zb)).trans (by rw [show q = 5 by omega])
                        refine g_iincN 7 (i + k) 1 [(7, .int (nI ((i + k) + 1))), (0, .ref (h 0)), (1, .int (r)), (2, .int (g)), (3, .int (b)), (4, .int ((rP σ r g b i (i + k) (rB σ r g b i (rA σ r g b nt i) k) q).1)), (5, .int ((rP σ r g b i (i + k) (rB σ r g b i (rA σ r g b nt i) k) q).2)), (6, .int (nI (i))), (8, .int (nI (q)))] C dX0_recipe_161 rfl (by decide) (by decide) rfl ?_
                        refine g_goto 28 C dX0_recipe_164 (by decide) ?_
                        refine g_lv [1, 2, 3, 4, 5, 6, 7, 0] [(0, .ref (h 0)), (1, .int (r)), (2, .int (g)), (3, .int (b)), (4, .int ((rP σ r g b i (i + k) (rB σ r g b i (rA σ r g b nt i) k) q).1)), (5, .int ((rP σ r g b i (i + k) (rB σ r g b i (rA σ r g b nt i) k) q).2)), (6, .int (nI (i))), (7, .int (nI ((i + k) + 1)))] rfl ?_
                        have hx := ih_28 (k + 1) (by omega) (by omega)
                        rw [eb] at hx
                        exact hx
                      ·
                        have d_66_6 : ¬ 4 < q := fun zz => c_66_6 ((nI_ltI (a := 4) (b := q) (by omega) (by omega)).mpr zz)
                        refine g_aload_n 0 C rfl dX0_recipe_69 rfl ?_
                        refine g_iload 6 C rfl dX0_recipe_70 ?_
                        refine g_iload 7 C rfl dX0_recipe_72 ?_
                        refine g_iload 8 C rfl dX0_recipe_74 ?_
                        refine g_iconst 0 C dX0_recipe_76 (by decide) ?_
                        refine g_callV0 (C0 := RX0) (T := TX0) (N := 17) (ci := 0) (na := 4) (As := [.int (nI (i)), .int (nI (i + k)), .int (nI (q)), .int (0)]) (c_mixed l D cI cJ h σ np nt no ni hI0 i (i + k) (nI (q)) 0 (by omega) (by omega) (by decide)) C gX0_recipe_X0_mixed rfl (by decide +kernel) rfl ⟨Nat.le_of_ble_eq_true rfl, Nat.le_of_ble_eq_true rfl⟩ rfl rfl rfl (Nat.le_of_ble_eq_true rfl) ⟨Nat.zero_le _, Nat.zero_le _⟩ rfl dX0_recipe_77 ?_
                        refine g_iload_n 1 C rfl dX0_recipe_80 rfl ?_
                        refine g_isub C dX0_recipe_81 ?_
                        refine g_callS0 (na := 1) (av := [.int ((mixd σ i (i + k) (nI (q)) 0) - r)]) (c_square l D cI cJ _ (((mixd σ i (i + k) (nI (q)) 0) - r))) C gX0_recipe_X0_square rfl (by decide +kernel) rfl ⟨Nat.le_of_ble_eq_true rfl, Nat.le_of_ble_eq_true rfl⟩ rfl (Nat.le_of_ble_eq_true rfl) ⟨Nat.zero_le _, Nat.zero_le _⟩ rfl dX0_recipe_82 ?_
                        refine g_aload_n 0 C rfl dX0_recipe_85 rfl ?_
                        refine g_iload 6 C rfl dX0_recipe_86 ?_
                        refine g_iload 7 C rfl dX0_recipe_88 ?_
                        refine g_iload 8 C rfl dX0_recipe_90 ?_
                        refine g_iconst 1 C dX0_recipe_92 (by decide) ?_
                        refine g_callV0 (C0 := RX0) (T := TX0) (N := 17) (ci := 0) (na := 4) (As := [.int (nI (i)), .int (nI (i + k)), .int (nI (q)), .int (1)]) (c_mixed l D cI cJ h σ np nt no ni hI0 i (i + k) (nI (q)) 1 (by omega) (by omega) (by decide)) C gX0_recipe_X0_mixed rfl (by decide +kernel) rfl ⟨Nat.le_of_ble_eq_true rfl, Nat.le_of_ble_eq_true rfl⟩ rfl rfl rfl (Nat.le_of_ble_eq_true rfl) ⟨Nat.zero_le _, Nat.zero_le _⟩ rfl dX0_recipe_93 ?_
                        refine g_iload_n 2 C rfl dX0_recipe_96 rfl ?_
                        refine g_isub C dX0_recipe_97 ?_
                        refine g_callS0 (na := 1) (av := [.int ((mixd σ i (i + k) (nI (q)) 1) - g)]) (c_square l D cI cJ _ (((mixd σ i (i + k) (nI (q)) 1) - g))) C gX0_recipe_X0_square rfl (by decide +kernel) rfl ⟨Nat.le_of_ble_eq_true rfl, Nat.le_of_ble_eq_true rfl⟩ rfl (Nat.le_of_ble_eq_true rfl) ⟨Nat.zero_le _, Nat.zero_le _⟩ rfl dX0_recipe_98 ?_
                        refine g_iadd C dX0_recipe_101 ?_
                        refine g_aload_n 0 C rfl dX0_recipe_102 rfl ?_
                        refine g_iload 6 C rfl dX0_recipe_103 ?_
                        refine g_iload 7 C rfl dX0_recipe_105 ?_
                        refine g_iload 8 C rfl dX0_recipe_107 ?_
                        refine g_iconst 2 C dX0_recipe_109 (by decide) ?_
                        refine g_callV0 (C0 := RX0) (T := TX0) (N := 17) (ci := 0) (na := 4) (As := [.int (nI (i)), .int (nI (i + k)), .int (nI (q)), .int (2)]) (c_mixed l D cI cJ h σ np nt no ni hI0 i (i + k) (nI (q)) 2 (by omega) (by omega) (by decide)) C gX0_recipe_X0_mixed rfl (by decide +kernel) rfl ⟨Nat.le_of_ble_eq_true rfl, Nat.le_of_ble_eq_true rfl⟩ rfl rfl rfl (Nat.le_of_ble_eq_true rfl) ⟨Nat.zero_le _, Nat.zero_le _⟩ rfl dX0_recipe_110 ?_
                        refine g_iload_n 3 C rfl dX0_recipe_113 rfl ?_
                        refine g_isub C dX0_recipe_114 ?_
                        refine g_callS0 (na := 1) (av := [.int ((mixd σ i (i + k) (nI (q)) 2) - b)]) (c_square l D cI cJ _ (((mixd σ i (i + k) (nI (q)) 2) - b))) C gX0_recipe_X0_square rfl (by decide +kernel) rfl ⟨Nat.le_of_ble_eq_true rfl, Nat.le_of_ble_eq_true rfl⟩ rfl (Nat.le_of_ble_eq_true rfl) ⟨Nat.zero_le _, Nat.zero_le _⟩ rfl dX0_recipe_115 ?_
                        refine g_iadd C dX0_recipe_118 ?_
                        refine g_is ((rdist σ i (i + k) q r g b)) rfl ?_
                        refine g_istore [(9, .int (rdist σ i (i + k) q r g b)), (0, .ref (h 0)), (1, .int (r)), (2, .int (g)), (3, .int (b)), (4, .int ((rP σ r g b i (i + k) (rB σ r g b i (rA σ r g b nt i) k) q).1)), (5, .int ((rP σ r g b i (i + k) (rB σ r g b i (rA σ r g b nt i) k) q).2)), (6, .int (nI (i))), (7, .int (nI (i + k))), (8, .int (nI (q)))] C dX0_recipe_119 (by decide) rfl ?_
                        refine g_iload 5 C rfl dX0_recipe_121 ?_
                        refine g_iconst (-1) C dX0_recipe_123 (by decide) ?_
                        refine g_icmp_eq 134 C dX0_recipe_124 (by decide) (fun c_124_7 => ?_) (fun c_124_7 => ?_)
                        ·
                          have ep : rP σ r g b i (i + k) (rB σ r g b i (rA σ r g b nt i) k) (q + 1) = (nI (1000 * i + 10 * (i + k) + q), rdist σ i (i + k) q r g b) := if_pos (Or.inl c_124_7)
                          refine g_sipush 1000 C dX0_recipe_134 (by decide) ?_
                          refine g_iload 7 C rfl dX0_recipe_137 ?_
                          refine g_imulN 1000 i C dX0_recipe_139 ?_
                          refine g_bipush 10 C dX0_recipe_140 (by decide) ?_
                          refine g_iload 8 C rfl dX0_recipe_142 ?_
                          refine g_imulN 10 (i + k) C dX0_recipe_144 ?_
                          refine g_iaddN (1000 * i) (10 * (i + k)) C dX0_recipe_145 ?_
                          refine g_iload 9 C rfl dX0_recipe_146 ?_
                          refine g_iaddN ((1000 * i) + (10 * (i + k))) q C dX0_recipe_148 ?_
                          refine g_istore [(4, .int (nI (((1000 * i) + (10 * (i + k))) + q))), (9, .int (rdist σ i (i + k) q r g b)), (0, .ref (h 0)), (1, .int (r)), (2, .int (g)), (3, .int (b)), (5, .int ((rP σ r g b i (i + k) (rB σ r g b i (rA σ r g b nt i) k) q).2)), (6, .int (nI (i))), (7, .int (nI (i + k))), (8, .int (nI (q)))] C dX0_recipe_149 (by decide) rfl ?_
                          refine g_iload 1 C rfl dX0_recipe_151 ?_
                          refine g_istore [(5, .int (rdist σ i (i + k) q r g b)), (4, .int (nI (((1000 * i) + (10 * (i + k))) + q))), (9, .int (rdist σ i (i + k) q r g b)), (0, .ref (h 0)), (1, .int (r)), (2, .int (g)), (3, .int (b)), (6, .int (nI (i))), (7, .int (nI (i + k))), (8, .int (nI (q)))] C dX0_recipe_153 (by decide) rfl ?_
                          refine g_iincN 9 q 1 [(8, .int (nI (q + 1))), (5, .int (rdist σ i (i + k) q r g b)), (4, .int (nI (((1000 * i) + (10 * (i + k))) + q))), (9, .int (rdist σ i (i + k) q r g b)), (0, .ref (h 0)), (1, .int (r)), (2, .int (g)), (3, .int (b)), (6, .int (nI (i))), (7, .int (nI (i + k)))] C dX0_recipe_155 rfl (by decide) (by decide) rfl ?_
                          refine g_goto 63 C dX0_recipe_158 (by decide) ?_
                          refine g_lv [4, 5, 6, 7, 2, 1, 8, 9, 0] [(0, .ref (h 0)), (1, .int (r)), (2, .int (g)), (3, .int (b)), (4, .int (nI (((1000 * i) + (10 * (i + k))) + q))), (5, .int (rdist σ i (i + k) q r g b)), (6, .int (nI (i))), (7, .int (nI (i + k))), (8, .int (nI (q + 1)))] rfl ?_
                          have hx := ih_63 (q + 1) (by omega) (by omega)
                          rw [ep] at hx
                          exact hx
                        ·
                          have zc := c_124_7
                          refine g_iload 0 C rfl dX0_recipe_127 ?_
                          refine g_iload 6 C rfl dX0_recipe_129 ?_
                          refine g_icmp_ge 155 C dX0_recipe_131 (by decide) (fun c_131_8 => ?_) (fun c_131_8 => ?_)
                          ·
                            have ep : rP σ r g b i (i + k) (rB σ r g b i (rA σ r g b nt i) k) (q + 1) = rP σ r g b i (i + k) (rB σ r g b i (rA σ r g b nt i) k) q := if_neg (fun z => z.elim zc (fun y => y c_131_8))
                            refine g_iincN 9 q 1 [(8, .int (nI (q + 1))), (9, .int (rdist σ i (i + k) q r g b)), (0, .ref (h 0)), (1, .int (r)), (2, .int (g)), (3, .int (b)), (4, .int ((rP σ r g b i (i + k) (rB σ r g b i (rA σ r g b nt i) k) q).1)), (5, .int ((rP σ r g b i (i + k) (rB σ r g b i (rA σ r g b nt i) k) q).2)), (6, .int (nI (i))), (7, .int (nI (i + k)))] C dX0_recipe_155 rfl (by decide) (by decide) rfl ?_
                            refine g_goto 63 C dX0_recipe_158 (by decide) ?_
                            refine g_lv [2, 3, 4, 5, 6, 7, 8, 9, 0] [(0, .ref (h 0)), (1, .int (r)), (2, .int (g)), (3, .int (b)), (4, .int ((rP σ r g b i (i + k) (rB σ r g b i (rA σ r g b nt i) k) q).1)), (5, .int ((rP σ r g b i (i + k) (rB σ r g b i (rA σ r g b nt i) k) q).2)), (6, .int (nI (i))), (7, .int (nI (i + k))), (8, .int (nI (q + 1)))] rfl ?_
                            have hx := ih_63 (q + 1) (by omega) (by omega)
                            rw [ep] at hx
                            exact hx
                          ·
                            have ep : rP σ r g b i (i + k) (rB σ r g b i (rA σ r g b nt i) k) (q + 1) = (nI (1000 * i + 10 * (i + k) + q), rdist σ i (i + k) q r g b) := if_pos (Or.inr c_131_8)
                            refine g_sipush 1000 C dX0_recipe_134 (by decide) ?_
                            refine g_iload 7 C rfl dX0_recipe_137 ?_
                            refine g_imulN 1000 i C dX0_recipe_139 ?_
                            refine g_bipush 10 C dX0_recipe_140 (by decide) ?_
                            refine g_iload 8 C rfl dX0_recipe_142 ?_
                            refine g_imulN 10 (i + k) C dX0_recipe_144 ?_
                            refine g_iaddN (1000 * i) (10 * (i + k)) C dX0_recipe_145 ?_
                            refine g_iload 9 C rfl dX0_recipe_146 ?_
                            refine g_iaddN ((1000 * i) + (10 * (i + k))) q C dX0_recipe_148 ?_
                            refine g_istore [(4, .int (nI (((1000 * i) + (10 * (i + k))) + q))), (9, .int (rdist σ i (i + k) q r g b)), (0, .ref (h 0)), (1, .int (r)), (2, .int (g)), (3, .int (b)), (5, .int ((rP σ r g b i (i + k) (rB σ r g b i (rA σ r g b nt i) k) q).2)), (6, .int (nI (i))), (7, .int (nI (i + k))), (8, .int (nI (q)))] C dX0_recipe_149 (by decide) rfl ?_
                            refine g_iload 1 C rfl dX0_recipe_151 ?_
                            refine g_istore [(5, .int (rdist σ i (i + k) q r g b)), (4, .int (nI (((1000 * i) + (10 * (i + k))) + q))), (9, .int (rdist σ i (i + k) q r g b)), (0, .ref (h 0)), (1, .int (r)), (2, .int (g)), (3, .int (b)), (6, .int (nI (i))), (7, .int (nI (i + k))), (8, .int (nI (q)))] C dX0_recipe_153 (by decide) rfl ?_
                            refine g_iincN 9 q 1 [(8, .int (nI (q + 1))), (5, .int (rdist σ i (i + k) q r g b)), (4, .int (nI (((1000 * i) + (10 * (i + k))) + q))), (9, .int (rdist σ i (i + k) q r g b)), (0, .ref (h 0)), (1, .int (r)), (2, .int (g)), (3, .int (b)), (6, .int (nI (i))), (7, .int (nI (i + k)))] C dX0_recipe_155 rfl (by decide) (by decide) rfl ?_
                            refine g_goto 63 C dX0_recipe_158 (by decide) ?_
                            refine g_lv [4, 5, 6, 7, 2, 1, 8, 9, 0] [(0, .ref (h 0)), (1, .int (r)), (2, .int (g)), (3, .int (b)), (4, .int (nI (((1000 * i) + (10 * (i + k))) + q))), (5, .int (rdist σ i (i + k) q r g b)), (6, .int (nI (i))), (7, .int (nI (i + k))), (8, .int (nI (q + 1)))] rfl ?_
                            have hx := ih_63 (q + 1) (by omega) (by omega)
                            rw [ep] at hx
                            exact hx
                  refine g_lv [1, 2, 3, 4, 5, 6, 7, 8, 0] [(0, .ref (h 0)), (1, .int (r)), (2, .int (g)), (3, .int (b)), (4, .int ((rB σ r g b i (rA σ r g b nt i) k).1)), (5, .int ((rB σ r g b i (rA σ r g b nt i) k).2)), (6, .int (nI (i))), (7, .int (nI (i + k))), (8, .int (0))] rfl ?_
                  exact loop_63 6 0 (by omega) (by omega)
                ·
                  have eb : rB σ r g b i (rA σ r g b nt i) (k + 1) = rB σ r g b i (rA σ r g b nt i) k := if_pos (Or.inr c_54_5)
                  refine g_goto 161 C dX0_recipe_57 (by decide) ?_
                  refine g_iincN 7 (i + k) 1 [(7, .int (nI ((i + k) + 1))), (0, .ref (h 0)), (1, .int (r)), (2, .int (g)), (3, .int (b)), (4, .int ((rB σ r g b i (rA σ r g b nt i) k).1)), (5, .int ((rB σ r g b i (rA σ r g b nt i) k).2)), (6, .int (nI (i)))] C dX0_recipe_161 rfl (by decide) (by decide) rfl ?_
                  refine g_goto 28 C dX0_recipe_164 (by decide) ?_
                  refine g_lv [1, 2, 3, 4, 5, 6, 7, 0] [(0, .ref (h 0)), (1, .int (r)), (2, .int (g)), (3, .int (b)), (4, .int ((rB σ r g b i (rA σ r g b nt i) k).1)), (5, .int ((rB σ r g b i (rA σ r g b nt i) k).2)), (6, .int (nI (i))), (7, .int (nI ((i + k) + 1)))] rfl ?_
                  have hx := ih_28 (k + 1) (by omega) (by omega)
                  rw [eb] at hx
                  exact hx
        refine g_lv [1, 2, 3, 4, 5, 6, 7, 0] [(0, .ref (h 0)), (1, .int (r)), (2, .int (g)), (3, .int (b)), (4, .int ((rA σ r g b nt i).1)), (5, .int ((rA σ r g b nt i).2)), (6, .int (nI (i))), (7, .int (nI (i)))] rfl ?_
        exact loop_28 (nt + 1) 0 (by omega) (by omega)
  refine g_lv [3, 4, 5, 6, 2, 1, 0] [(0, .ref (h 0)), (1, .int (r)), (2, .int (g)), (3, .int (b)), (4, .int ((-1))), (5, .int (0)), (6, .int (0))] rfl ?_
  exact loop_15 (nt + 1) 0 (by omega) (by omega)
