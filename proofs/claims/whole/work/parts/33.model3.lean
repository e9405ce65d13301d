/-! The reference, its calls. -/
set_option maxRecDepth 100000 in
set_option maxHeartbeats 4000000 in
theorem c_m_pigment (l : Launch) (D : va_G) (cI cJ : ClassId) (h : Nat → Nat) (τ : gS) (np nt no ni : Nat) (hI : iM0 τ np nt no ni) (r g b : Int32) (K : Nat) (hK : K = tm_pigment np r g b) : MC l yX1_pigment wsX1_pigment 2 44 D (tyIJ cI cJ) [.ref (h 0), .int (r), .int (g), .int (b)] (wM cI h τ) (wM cI h (mS K τ (m_pigment τ np r g b))) none (some (.int (mR K (nI np)))) 0 := by
  have hI0 := hI
  obtain ⟨⟨hnp, hnp6⟩, ⟨hnt, hnt12⟩, ⟨hno, hno10⟩, ⟨hni, hni8⟩, hPT, hLC, hHS⟩ := hI
  refine MC.ofG (cc := cX1_pigment) (maxL := 4) (ret := (some .int)) [(0, .ref (h 0)), (1, .int (r)), (2, .int (g)), (3, .int (b))] (by decide) rfl (Nat.le_of_ble_eq_true rfl) rfl ?_
  intro p e s m args below meth c C hr hout
  have hin : ∀ w ∈ wsX10, w ∈ wsX1_pigment := fun w h => by first | exact List.mem_cons_of_mem _ (List.mem_append_right _ h) | exact List.mem_cons_of_mem _ (List.mem_append_left _ (List.mem_append_right _ h)) | exact List.mem_cons_of_mem _ (List.mem_append_left _ (List.mem_append_left _ (List.mem_append_right _ h))) | exact List.mem_cons_of_mem _ (List.mem_append_left _ (List.mem_append_left _ (List.mem_append_left _ (List.mem_append_right _ h)))) | exact List.mem_cons_of_mem _ (List.mem_append_left _ (List.mem_append_left _ (List.mem_append_left _ (List.mem_append_left _ (List.mem_append_right _ h)))))
  refine g_aload_n 0 C rfl dX1_pigment_0 rfl ?_
  refine g_iload_n 1 C rfl dX1_pigment_1 rfl ?_
  refine g_iload_n 2 C rfl dX1_pigment_2 rfl ?_
  refine g_iload_n 3 C rfl dX1_pigment_3 rfl ?_
  refine g_callS0 (na := 3) (av := [.int (r), .int (g), .int (b)]) (c_m_areShades l D cI cJ _ (r) (g) (b)) C gX1_pigment_X1_areShades rfl (by decide +kernel) rfl ⟨Nat.le_of_ble_eq_true rfl, Nat.le_of_ble_eq_true rfl⟩ rfl (Nat.le_of_ble_eq_true rfl) ⟨Nat.zero_le _, Nat.zero_le _⟩ rfl dX1_pigment_4 ?_
  refine g_if_ne 14 C dX1_pigment_7 (by decide) (fun c_7_1 => ?_) (fun c_7_1 => ?_)
  ·
    have b_7_1 : ¬ (out (r) 0 255 ∨ out (g) 0 255 ∨ out (b) 0 255) := bI_ne c_7_1
    refine g_aload_n 0 C rfl dX1_pigment_14 rfl ?_
    refine g_get (C0 := RX1) (T := TX1) (N := 22) 0 1 1 (.int (τ.1 1)) C hin rfl rfl (by decide) (by decide +kernel) rfl dX1_pigment_15 ?_
    refine g_is (nI np) hnp ?_
    refine g_bipush 6 C dX1_pigment_18 (by decide) ?_
    refine g_icmp_ne 27 C dX1_pigment_20 (by decide) (fun c_20_2 => ?_) (fun c_20_2 => ?_)
    ·
      have d_20_2 : ¬ np = 6 := fun zz => c_20_2 ((nI_eq (a := np) (b := 6) (by omega) (by omega)).mpr zz)
      refine g_iconst 0 C dX1_pigment_27 (by decide) ?_
      refine g_put (C0 := RX1) (T := TX1) (N := 22) 0 1 0 (wM cI h (sS τ 0 (0))) C hin tyX1_ok nmX1 rfl rfl (by decide) (by decide +kernel) rfl (by decide +kernel) (Nat.le_of_ble_eq_true rfl) rfl dX1_pigment_28 ?_
      refine g_aload_n 0 C rfl dX1_pigment_31 rfl ?_
      refine g_get (C0 := RX1) (T := TX1) (N := 22) 0 1 0 (.int (0)) C hin rfl rfl (by decide) (by decide +kernel) rfl dX1_pigment_32 ?_
      refine g_if_le 40 C dX1_pigment_35 (by decide) (fun _ => ?_) (fun q => absurd q (by decide))
      refine g_aload_n 0 C rfl dX1_pigment_40 rfl ?_
      refine g_get (C0 := RX1) (T := TX1) (N := 22) 0 1 2 (.ref (h 1)) C hin rfl rfl (by decide) (by decide +kernel) rfl dX1_pigment_41 ?_
      refine g_iconst 3 C dX1_pigment_44 (by decide) ?_
      refine g_aload_n 0 C rfl dX1_pigment_45 rfl ?_
      refine g_get (C0 := RX1) (T := TX1) (N := 22) 0 1 1 (.int (τ.1 1)) C hin rfl rfl (by decide) (by decide +kernel) rfl dX1_pigment_46 ?_
      refine g_is (nI np) hnp ?_
      refine g_imulN 3 np C dX1_pigment_49 ?_
      refine g_iload_n 1 C rfl dX1_pigment_50 rfl ?_
      refine g_iastN (cA := cI) (n := 18) (a := h 1) (f := τ.2 0) (x := r) (3 * np) 1 0 (wM cI h (sA (sS τ 0 (0)) 0 (upd (τ.2 0) (3 * np) (r)))) C rfl rfl (by omega) (by decide) rfl dX1_pigment_51 ?_
      refine g_aload_n 0 C rfl dX1_pigment_52 rfl ?_
      refine g_get (C0 := RX1) (T := TX1) (N := 22) 0 1 2 (.ref (h 1)) C hin rfl rfl (by decide) (by decide +kernel) rfl dX1_pigment_53 ?_
      refine g_iconst 3 C dX1_pigment_56 (by decide) ?_
      refine g_aload_n 0 C rfl dX1_pigment_57 rfl ?_
      refine g_get (C0 := RX1) (T := TX1) (N := 22) 0 1 1 (.int (τ.1 1)) C hin rfl rfl (by decide) (by decide +kernel) rfl dX1_pigment_58 ?_
      refine g_is (nI np) hnp ?_
      refine g_imulN 3 np C dX1_pigment_61 ?_
      refine g_iconst 1 C dX1_pigment_62 (by decide) ?_
      refine g_iaddN (3 * np) 1 C dX1_pigment_63 ?_
      refine g_iload_n 2 C rfl dX1_pigment_64 rfl ?_
      refine g_iastN (cA := cI) (n := 18) (a := h 1) (f := upd (τ.2 0) (3 * np) (r)) (x := g) ((3 * np) + 1) 1 0 (wM cI h (sA (sS τ 0 (0)) 0 (upd (upd (τ.2 0) (3 * np) (r)) ((3 * np) + 1) (g)))) C rfl rfl (by omega) (by decide) rfl dX1_pigment_65 ?_
      refine g_aload_n 0 C rfl dX1_pigment_66 rfl ?_
      refine g_get (C0 := RX1) (T := TX1) (N := 22) 0 1 2 (.ref (h 1)) C hin rfl rfl (by decide) (by decide +kernel) rfl dX1_pigment_67 ?_
      refine g_iconst 3 C dX1_pigment_70 (by decide) ?_
      refine g_aload_n 0 C rfl dX1_pigment_71 rfl ?_
      refine g_get (C0 := RX1) (T := TX1) (N := 22) 0 1 1 (.int (τ.1 1)) C hin rfl rfl (by decide) (by decide +kernel) rfl dX1_pigment_72 ?_
      refine g_is (nI np) hnp ?_
      refine g_imulN 3 np C dX1_pigment_75 ?_
      refine g_iconst 2 C dX1_pigment_76 (by decide) ?_
      refine g_iaddN (3 * np) 2 C dX1_pigment_77 ?_
      refine g_iload_n 3 C rfl dX1_pigment_78 rfl ?_
      refine g_iastN (cA := cI) (n := 18) (a := h 1) (f := upd (upd (τ.2 0) (3 * np) (r)) ((3 * np) + 1) (g)) (x := b) ((3 * np) + 2) 1 0 (wM cI h (sA (sS τ 0 (0)) 0 (upd (upd (upd (τ.2 0) (3 * np) (r)) ((3 * np) + 1) (g)) ((3 * np) + 2) (b)))) C rfl rfl (by omega) (by decide) rfl dX1_pigment_79 ?_
      refine g_aload_n 0 C rfl dX1_pigment_80 rfl ?_
      refine g_dup C dX1_pigment_81 rfl ?_
      refine g_get (C0 := RX1) (T := TX1) (N := 22) 0 1 1 (.int (τ.1 1)) C hin rfl rfl (by decide) (by decide +kernel) rfl dX1_pigment_82 ?_
      refine g_is (nI np) hnp ?_
      refine g_iconst 1 C dX1_pigment_85 (by decide) ?_
      refine g_iaddN np 1 C dX1_pigment_86 ?_
      refine g_put (C0 := RX1) (T := TX1) (N := 22) 0 1 1 (wM cI h (sS (sA (sS τ 0 (0)) 0 (upd (upd (upd (τ.2 0) (3 * np) (r)) ((3 * np) + 1) (g)) ((3 * np) + 2) (b))) 1 (nI (np + 1)))) C hin tyX1_ok nmX1 rfl rfl (by decide) (by decide +kernel) rfl (by decide +kernel) (Nat.le_of_ble_eq_true rfl) rfl dX1_pigment_87 ?_
      refine g_aload_n 0 C rfl dX1_pigment_90 rfl ?_
      refine g_get (C0 := RX1) (T := TX1) (N := 22) 0 1 1 (.int (nI (np + 1))) C hin rfl rfl (by decide) (by decide +kernel) rfl dX1_pigment_91 ?_
      refine g_iconst 1 C dX1_pigment_94 (by decide) ?_
      refine g_isubN (np + 1) 1 C (by omega) dX1_pigment_95 ?_
      obtain rfl : K = 0 := hK.trans (by simp only [tm_pigment, b_7_1, c_20_2, if_true, if_false, not_true, not_false_iff])
      exact g_iret C hr rfl dX1_pigment_96 (Nat.zero_le _) (Nat.zero_le _) rfl rfl rfl
    ·
      have d_20_2 : np = 6 := (nI_eq (a := np) (b := 6) (by omega) (by omega)).mp c_20_2
      refine g_iconst 2 C dX1_pigment_23 (by decide) ?_
      refine g_goto 28 C dX1_pigment_24 (by decide) ?_
      refine g_put (C0 := RX1) (T := TX1) (N := 22) 0 1 0 (wM cI h (sS τ 0 (2))) C hin tyX1_ok nmX1 rfl rfl (by decide) (by decide +kernel) rfl (by decide +kernel) (Nat.le_of_ble_eq_true rfl) rfl dX1_pigment_28 ?_
      refine g_aload_n 0 C rfl dX1_pigment_31 rfl ?_
      refine g_get (C0 := RX1) (T := TX1) (N := 22) 0 1 0 (.int (2)) C hin rfl rfl (by decide) (by decide +kernel) rfl dX1_pigment_32 ?_
      refine g_if_le 40 C dX1_pigment_35 (by decide) (fun q => absurd q (by decide)) (fun _ => ?_)
      refine g_iconst 0 C dX1_pigment_38 (by decide) ?_
      obtain rfl : K = 2 := hK.trans (by simp only [tm_pigment, b_7_1, c_20_2, if_true, if_false, not_true, not_false_iff])
      exact g_iret C hr rfl dX1_pigment_39 (Nat.zero_le _) (Nat.zero_le _) rfl rfl rfl
  ·
    have b_7_1 : (out (r) 0 255 ∨ out (g) 0 255 ∨ out (b) 0 255) := Classical.byContradiction (bI_eq c_7_1)
    refine g_iconst 1 C dX1_pigment_10 (by decide) ?_
    refine g_goto 28 C dX1_pigment_11 (by decide) ?_
    refine g_put (C0 := RX1) (T := TX1) (N := 22) 0 1 0 (wM cI h (sS τ 0 (1))) C hin tyX1_ok nmX1 rfl rfl (by decide) (by decide +kernel) rfl (by decide +kernel) (Nat.le_of_ble_eq_true rfl) rfl dX1_pigment_28 ?_
    refine g_aload_n 0 C rfl dX1_pigment_31 rfl ?_
    refine g_get (C0 := RX1) (T := TX1) (N := 22) 0 1 0 (.int (1)) C hin rfl rfl (by decide) (by decide +kernel) rfl dX1_pigment_32 ?_
    refine g_if_le 40 C dX1_pigment_35 (by decide) (fun q => absurd q (by decide)) (fun _ => ?_)
    refine g_iconst 0 C dX1_pigment_38 (by decide) ?_
    obtain rfl : K = 1 := hK.trans (by simp only [tm_pigment, b_7_1, if_true, if_false, not_true, not_false_iff])
    exact g_iret C hr rfl dX1_pigment_39 (Nat.zero_le _) (Nat.zero_le _) rfl rfl rfl
set_option maxRecDepth 100000 in
set_option maxHeartbeats 4000000 in
theorem c_m_tube (l : Launch) (D : va_G) (cI cJ : ClassId) (h : Nat → Nat) (τ : gS) (np nt no ni : Nat) (hI : iM0 τ np nt no ni) (x g : Int32) (K : Nat) (hK : K = tm_tube np nt x g) : MC l yX1_tube wsX1_tube 1 22 D (tyIJ cI cJ) [.ref (h 0), .int (x), .int (g)] (wM cI h τ) (wM cI h (mS K τ (m_tube τ nt x g))) none (some (.int (mR K (nI nt)))) 0 := by
  have hI0 := hI
  obtain ⟨⟨hnp, hnp6⟩, ⟨hnt, hnt12⟩, ⟨hno, hno10⟩, ⟨hni, hni8⟩, hPT, hLC, hHS⟩ := hI
  refine MC.ofG (cc := cX1_tube) (maxL := 3) (ret := (some .int)) [(0, .ref (h 0)), (1, .int (x)), (2, .int (g))] (by decide) rfl (Nat.le_of_ble_eq_true rfl) rfl ?_
  intro p e s m args below meth c C hr hout
  have hin : ∀ w ∈ wsX10, w ∈ wsX1_tube := fun w h => by first | exact List.mem_cons_of_mem _ (List.mem_append_right _ h) | exact List.mem_cons_of_mem _ (List.mem_append_left _ (List.mem_append_right _ h)) | exact List.mem_cons_of_mem _ (List.mem_append_left _ (List.mem_append_left _ (List.mem_append_right _ h))) | exact List.mem_cons_of_mem _ (List.mem_append_left _ (List.mem_append_left _ (List.mem_append_left _ (List.mem_append_right _ h)))) | exact List.mem_cons_of_mem _ (List.mem_append_left _ (List.mem_append_left _ (List.mem_append_left _ (List.mem_append_left _ (List.mem_append_right _ h)))))
  refine g_aload_n 0 C rfl dX1_tube_0 rfl ?_
  refine g_iload_n 1 C rfl dX1_tube_1 rfl ?_
  refine g_iconst 0 C dX1_tube_2 (by decide) ?_
  refine g_aload_n 0 C rfl dX1_tube_3 rfl ?_
  refine g_get (C0 := RX1) (T := TX1) (N := 22) 0 1 1 (.int (τ.1 1)) C hin rfl rfl (by decide) (by decide +kernel) rfl dX1_tube_4 ?_
  refine g_is (nI np) hnp ?_
  refine g_iconst 1 C dX1_tube_7 (by decide) ?_
  refine g_isub C dX1_tube_8 ?_
  refine g_callS0 (na := 3) (av := [.int (x), .int (0), .int (nI (np) - 1)]) (c_m_in l D cI cJ _ (x) (0) ((nI (np) - 1))) C gX1_tube_X1_in rfl (by decide +kernel) rfl ⟨Nat.le_of_ble_eq_true rfl, Nat.le_of_ble_eq_true rfl⟩ rfl (Nat.le_of_ble_eq_true rfl) ⟨Nat.zero_le _, Nat.zero_le _⟩ rfl dX1_tube_9 ?_
  refine g_if_ne 19 C dX1_tube_12 (by decide) (fun c_12_1 => ?_) (fun c_12_1 => ?_)
  ·
    have b_12_1 : ¬ out (x) (0) ((nI (np) - 1)) := bI_ne c_12_1
    have nb_12_1 : ¬ bad x (nI np) := (in_bad (by omega)).mp b_12_1
    refine g_iload_n 2 C rfl dX1_tube_19 rfl ?_
    refine g_iconst 1 C dX1_tube_20 (by decide) ?_
    refine g_sipush 1000 C dX1_tube_21 (by decide) ?_
    refine g_callS0 (na := 3) (av := [.int (g), .int (1), .int (1000)]) (c_m_in l D cI cJ _ (g) (1) (1000)) C gX1_tube_X1_in rfl (by decide +kernel) rfl ⟨Nat.le_of_ble_eq_true rfl, Nat.le_of_ble_eq_true rfl⟩ rfl (Nat.le_of_ble_eq_true rfl) ⟨Nat.zero_le _, Nat.zero_le _⟩ rfl dX1_tube_24 ?_
    refine g_if_ne 34 C dX1_tube_27 (by decide) (fun c_27_2 => ?_) (fun c_27_2 => ?_)
    ·
      have b_27_2 : ¬ out (g) (1) (1000) := bI_ne c_27_2
      refine g_aload_n 0 C rfl dX1_tube_34 rfl ?_
      refine g_get (C0 := RX1) (T := TX1) (N := 22) 0 1 3 (.int (τ.1 2)) C hin rfl rfl (by decide) (by decide +kernel) rfl dX1_tube_35 ?_
      refine g_is (nI nt) hnt ?_
      refine g_bipush 12 C dX1_tube_38 (by decide) ?_
      refine g_icmp_ne 47 C dX1_tube_40 (by decide) (fun c_40_3 => ?_) (fun c_40_3 => ?_)
      ·
        have d_40_3 : ¬ nt = 12 := fun zz => c_40_3 ((nI_eq (a := nt) (b := 12) (by omega) (by omega)).mpr zz)
        refine g_iconst 0 C dX1_tube_47 (by decide) ?_
        refine g_put (C0 := RX1) (T := TX1) (N := 22) 0 1 0 (wM cI h (sS τ 0 (0))) C hin tyX1_ok nmX1 rfl rfl (by decide) (by decide +kernel) rfl (by decide +kernel) (Nat.le_of_ble_eq_true rfl) rfl dX1_tube_48 ?_
        refine g_aload_n 0 C rfl dX1_tube_51 rfl ?_
        refine g_get (C0 := RX1) (T := TX1) (N := 22) 0 1 0 (.int (0)) C hin rfl rfl (by decide) (by decide +kernel) rfl dX1_tube_52 ?_
        refine g_if_le 60 C dX1_tube_55 (by decide) (fun _ => ?_) (fun q => absurd q (by decide))
        refine g_aload_n 0 C rfl dX1_tube_60 rfl ?_
        refine g_get (C0 := RX1) (T := TX1) (N := 22) 0 1 4 (.ref (h 2)) C hin rfl rfl (by decide) (by decide +kernel) rfl dX1_tube_61 ?_
        refine g_aload_n 0 C rfl dX1_tube_64 rfl ?_
        refine g_get (C0 := RX1) (T := TX1) (N := 22) 0 1 3 (.int (τ.1 2)) C hin rfl rfl (by decide) (by decide +kernel) rfl dX1_tube_65 ?_
        refine g_is (nI nt) hnt ?_
        refine g_iload_n 1 C rfl dX1_tube_68 rfl ?_
        refine g_iastN (cA := cI) (n := 12) (a := h 2) (f := τ.2 1) (x := x) nt 2 0 (wM cI h (sA (sS τ 0 (0)) 1 (upd (τ.2 1) nt (x)))) C rfl rfl (by omega) (by decide) rfl dX1_tube_69 ?_
        refine g_aload_n 0 C rfl dX1_tube_70 rfl ?_
        refine g_get (C0 := RX1) (T := TX1) (N := 22) 0 1 5 (.ref (h 3)) C hin rfl rfl (by decide) (by decide +kernel) rfl dX1_tube_71 ?_
        refine g_aload_n 0 C rfl dX1_tube_74 rfl ?_
        refine g_get (C0 := RX1) (T := TX1) (N := 22) 0 1 3 (.int (τ.1 2)) C hin rfl rfl (by decide) (by decide +kernel) rfl dX1_tube_75 ?_
        refine g_is (nI nt) hnt ?_
        refine g_iload_n 2 C rfl dX1_tube_78 rfl ?_
        refine g_iastN (cA := cI) (n := 12) (a := h 3) (f := τ.2 2) (x := g) nt 3 0 (wM cI h (sA (sA (sS τ 0 (0)) 1 (upd (τ.2 1) nt (x))) 2 (upd (τ.2 2) nt (g)))) C rfl rfl (by omega) (by decide) rfl dX1_tube_79 ?_
        refine g_aload_n 0 C rfl dX1_tube_80 rfl ?_
        refine g_dup C dX1_tube_81 rfl ?_
        refine g_get (C0 := RX1) (T := TX1) (N := 22) 0 1 3 (.int (τ.1 2)) C hin rfl rfl (by decide) (by decide +kernel) rfl dX1_tube_82 ?_
        refine g_is (nI nt) hnt ?_
        refine g_iconst 1 C dX1_tube_85 (by decide) ?_
        refine g_iaddN nt 1 C dX1_tube_86 ?_
        refine g_put (C0 := RX1) (T := TX1) (N := 22) 0 1 3 (wM cI h (sS (sA (sA (sS τ 0 (0)) 1 (upd (τ.2 1) nt (x))) 2 (upd (τ.2 2) nt (g))) 2 (nI (nt + 1)))) C hin tyX1_ok nmX1 rfl rfl (by decide) (by decide +kernel) rfl (by decide +kernel) (Nat.le_of_ble_eq_true rfl) rfl dX1_tube_87 ?_
        refine g_aload_n 0 C rfl dX1_tube_90 rfl ?_
        refine g_get (C0 := RX1) (T := TX1) (N := 22) 0 1 3 (.int (nI (nt + 1))) C hin rfl rfl (by decide) (by decide +kernel) rfl dX1_tube_91 ?_
        refine g_iconst 1 C dX1_tube_94 (by decide) ?_
        refine g_isubN (nt + 1) 1 C (by omega) dX1_tube_95 ?_
        obtain rfl : K = 0 := hK.trans (by simp [tm_tube, nb_12_1, b_27_2, c_40_3])
        exact g_iret C hr rfl dX1_tube_96 (Nat.zero_le _) (Nat.zero_le _) rfl rfl rfl
      ·
        have d_40_3 : nt = 12 := (nI_eq (a := nt) (b := 12) (by omega) (by omega)).mp c_40_3
        refine g_iconst 3 C dX1_tube_43 (by decide) ?_
        refine g_goto 48 C dX1_tube_44 (by decide) ?_
        refine g_put (C0 := RX1) (T := TX1) (N := 22) 0 1 0 (wM cI h (sS τ 0 (3))) C hin tyX1_ok nmX1 rfl rfl (by decide) (by decide +kernel) rfl (by decide +kernel) (Nat.le_of_ble_eq_true rfl) rfl dX1_tube_48 ?_
        refine g_aload_n 0 C rfl dX1_tube_51 rfl ?_
        refine g_get (C0 := RX1) (T := TX1) (N := 22) 0 1 0 (.int (3)) C hin rfl rfl (by decide) (by decide +kernel) rfl dX1_tube_52 ?_
        refine g_if_le 60 C dX1_tube_55 (by decide) (fun q => absurd q (by decide)) (fun _ => ?_)
        refine g_iconst 0 C dX1_tube_58 (by decide) ?_
        obtain rfl : K = 3 := hK.trans (by simp [tm_tube, nb_12_1, b_27_2, c_40_3])
        exact g_iret C hr rfl dX1_tube_59 (Nat.zero_le _) (Nat.zero_le _) rfl rfl rfl
    ·
      have b_27_2 : out (g) (1) (1000) := Classical.byContradiction (bI_eq c_27_2)
      refine g_iconst 2 C dX1_tube_30 (by decide) ?_
      refine g_goto 48 C dX1_tube_31 (by decide) ?_
      refine g_put (C0 := RX1) (T := TX1) (N := 22) 0 1 0 (wM cI h (sS τ 0 (2))) C hin tyX1_ok nmX1 rfl rfl (by decide) (by decide +kernel) rfl (by decide +kernel) (Nat.le_of_ble_eq_true rfl) rfl dX1_tube_48 ?_
      refine g_aload_n 0 C rfl dX1_tube_51 rfl ?_
      refine g_get (C0 := RX1) (T := TX1) (N := 22) 0 1 0 (.int (2)) C hin rfl rfl (by decide) (by decide +kernel) rfl dX1_tube_52 ?_
      refine g_if_le 60 C dX1_tube_55 (by decide) (fun q => absurd q (by decide)) (fun _ => ?_)
      refine g_iconst 0 C dX1_tube_58 (by decide) ?_
      obtain rfl : K = 2 := hK.trans (by simp [tm_tube, nb_12_1, b_27_2])
      exact g_iret C hr rfl dX1_tube_59 (Nat.zero_le _) (Nat.zero_le _) rfl rfl rfl
  ·
    have b_12_1 : out (x) (0) ((nI (np) - 1)) := Classical.byContradiction (bI_eq c_12_1)
    have nb_12_1 : bad x (nI np) := Classical.byContradiction fun z => ((in_bad (by omega)).mpr z) b_12_1
    refine g_iconst 1 C dX1_tube_15 (by decide) ?_
    refine g_goto 48 C dX1_tube_16 (by decide) ?_
    refine g_put (C0 := RX1) (T := TX1) (N := 22) 0 1 0 (wM cI h (sS τ 0 (1))) C hin tyX1_ok nmX1 rfl rfl (by decide) (by decide +kernel) rfl (by decide +kernel) (Nat.le_of_ble_eq_true rfl) rfl dX1_tube_48 ?_
    refine g_aload_n 0 C rfl dX1_tube_51 rfl ?_
    refine g_get (C0 := RX1) (T := TX1) (N := 22) 0 1 0 (.int (1)) C hin rfl rfl (by decide) (by decide +kernel) rfl dX1_tube_52 ?_
    refine g_if_le 60 C dX1_tube_55 (by decide) (fun q => absurd q (by decide)) (fun _ => ?_)
    refine g_iconst 0 C dX1_tube_58 (by decide) ?_
    obtain rfl : K = 1 := hK.trans (by simp [tm_tube, nb_12_1])
    exact g_iret C hr rfl dX1_tube_59 (Nat.zero_le _) (Nat.zero_le _) rfl rfl rfl
set_option maxRecDepth 100000 in
set_option maxHeartbeats 4000000 in
theorem c_m_pot (l : Launch) (D : va_G) (cI cJ : ClassId) (h : Nat → Nat) (τ : gS) (np nt no ni : Nat) (hI : iM0 τ np nt no ni)  (K : Nat) (hK : K = tm_pot no) : MC l yX1_pot wsX1_pot 0 0 D (tyIJ cI cJ) [.ref (h 0)] (wM cI h τ) (wM cI h (mS K τ (sS (sS τ 0 0) 3 (nI (no + 1))))) none (some (.int (mR K (nI no)))) 0 := by
  have hI0 := hI
  obtain ⟨⟨hnp, hnp6⟩, ⟨hnt, hnt12⟩, ⟨hno, hno10⟩, ⟨hni, hni8⟩, hPT, hLC, hHS⟩ := hI
  refine MC.ofG (cc := cX1_pot) (maxL := 1) (ret := (some .int)) [(0, .ref (h 0))] (by decide) rfl (Nat.le_of_ble_eq_true rfl) rfl ?_
  intro p e s m args below meth c C hr hout
  have hin : ∀ w ∈ wsX10, w ∈ wsX1_pot := fun w h => by first | exact List.mem_cons_of_mem _ (List.mem_append_right _ h) | exact List.mem_cons_of_mem _ (List.mem_append_left _ (List.mem_append_right _ h)) | exact List.mem_cons_of_mem _ (List.mem_append_left _ (List.mem_append_left _ (List.mem_append_right _ h))) | exact List.mem_cons_of_mem _ (List.mem_append_left _ (List.mem_append_left _ (List.mem_append_left _ (List.mem_append_right _ h)))) | exact List.mem_cons_of_mem _ (List.mem_append_left _ (List.mem_append_left _ (List.mem_append_left _ (List.mem_append_left _ (List.mem_append_right _ h)))))
  refine g_aload_n 0 C rfl dX1_pot_0 rfl ?_
  refine g_aload_n 0 C rfl dX1_pot_1 rfl ?_
  refine g_get (C0 := RX1) (T := TX1) (N := 22) 0 1 7 (.int (τ.1 3)) C hin rfl rfl (by decide) (by decide +kernel) rfl dX1_pot_2 ?_
  refine g_is (nI no) hno ?_
  refine g_bipush 10 C dX1_pot_5 (by decide) ?_
  refine g_icmp_ne 14 C dX1_pot_7 (by decide) (fun c_7_1 => ?_) (fun c_7_1 => ?_)
  ·
    have d_7_1 : ¬ no = 10 := fun zz => c_7_1 ((nI_eq (a := no) (b := 10) (by omega) (by omega)).mpr zz)
    refine g_iconst 0 C dX1_pot_14 (by decide) ?_
    refine g_put (C0 := RX1) (T := TX1) (N := 22) 0 1 0 (wM cI h (sS τ 0 (0))) C hin tyX1_ok nmX1 rfl rfl (by decide) (by decide +kernel) rfl (by decide +kernel) (Nat.le_of_ble_eq_true rfl) rfl dX1_pot_15 ?_
    refine g_aload_n 0 C rfl dX1_pot_18 rfl ?_
    refine g_get (C0 := RX1) (T := TX1) (N := 22) 0 1 0 (.int (0)) C hin rfl rfl (by decide) (by decide +kernel) rfl dX1_pot_19 ?_
    refine g_if_le 27 C dX1_pot_22 (by decide) (fun _ => ?_) (fun q => absurd q (by decide))
    refine g_aload_n 0 C rfl dX1_pot_27 rfl ?_
    refine g_dup C dX1_pot_28 rfl ?_
    refine g_get (C0 := RX1) (T := TX1) (N := 22) 0 1 7 (.int (τ.1 3)) C hin rfl rfl (by decide) (by decide +kernel) rfl dX1_pot_29 ?_
    refine g_is (nI no) hno ?_
    refine g_iconst 1 C dX1_pot_32 (by decide) ?_
    refine g_iaddN no 1 C dX1_pot_33 ?_
    refine g_put (C0 := RX1) (T := TX1) (N := 22) 0 1 7 (wM cI h (sS (sS τ 0 (0)) 3 (nI (no + 1)))) C hin tyX1_ok nmX1 rfl rfl (by decide) (by decide +kernel) rfl (by decide +kernel) (Nat.le_of_ble_eq_true rfl) rfl dX1_pot_34 ?_
    refine g_aload_n 0 C rfl dX1_pot_37 rfl ?_
    refine g_get (C0 := RX1) (T := TX1) (N := 22) 0 1 7 (.int (nI (no + 1))) C hin rfl rfl (by decide) (by decide +kernel) rfl dX1_pot_38 ?_
    refine g_iconst 1 C dX1_pot_41 (by decide) ?_
    refine g_isubN (no + 1) 1 C (by omega) dX1_pot_42 ?_
    obtain rfl : K = 0 := hK.trans (by simp [tm_pot, c_7_1])
    exact g_iret C hr rfl dX1_pot_43 (Nat.zero_le _) (Nat.zero_le _) rfl rfl rfl
  ·
    have d_7_1 : no = 10 := (nI_eq (a := no) (b := 10) (by omega) (by omega)).mp c_7_1
    refine g_iconst 1 C dX1_pot_10 (by decide) ?_
    refine g_goto 15 C dX1_pot_11 (by decide) ?_
    refine g_put (C0 := RX1) (T := TX1) (N := 22) 0 1 0 (wM cI h (sS τ 0 (1))) C hin tyX1_ok nmX1 rfl rfl (by decide) (by decide +kernel) rfl (by decide +kernel) (Nat.le_of_ble_eq_true rfl) rfl dX1_pot_15 ?_
    refine g_aload_n 0 C rfl dX1_pot_18 rfl ?_
    refine g_get (C0 := RX1) (T := TX1) (N := 22) 0 1 0 (.int (1)) C hin rfl rfl (by decide) (by decide +kernel) rfl dX1_pot_19 ?_
    refine g_if_le 27 C dX1_pot_22 (by decide) (fun q => absurd q (by decide)) (fun _ => ?_)
    refine g_iconst 0 C dX1_pot_25 (by decide) ?_
    obtain rfl : K = 1 := hK.trans (by simp [tm_pot, c_7_1])
    exact g_iret C hr rfl dX1_pot_26 (Nat.zero_le _) (Nat.zero_le _) rfl rfl rfl
set_option maxRecDepth 100000 in
set_option maxHeartbeats 4000000 in
theorem c_m_picture (l : Launch) (D : va_G) (cI cJ : ClassId) (h : Nat → Nat) (τ : gS) (np nt no ni : Nat) (hI : iM0 τ np nt no ni)  (K : Nat) (hK : K = tm_picture ni) : MC l yX1_picture wsX1_picture 0 0 D (tyIJ cI cJ) [.ref (h 0)] (wM cI h τ) (wM cI h (mS K τ (sS (sS τ 0 0) 4 (nI (ni + 1))))) none (some (.int (mR K (nI ni)))) 0 := by
  have hI0 := hI
  obtain ⟨⟨hnp, hnp6⟩, ⟨hnt, hnt12⟩, ⟨hno, hno10⟩, ⟨hni, hni8⟩, hPT, hLC, hHS⟩ := hI
  refine MC.ofG (cc := cX1_picture) (maxL := 1) (ret := (some .int)) [(0, .ref (h 0))] (by decide) rfl (Nat.le_of_ble_eq_true rfl) rfl ?_
  intro p e s m args below meth c C hr hout
  have hin : ∀ w ∈ wsX10, w ∈ wsX1_picture := fun w h => by first | exact List.mem_cons_of_mem _ (List.mem_append_right _ h) | exact List.mem_cons_of_mem _ (List.mem_append_left _ (List.mem_append_right _ h)) | exact List.mem_cons_of_mem _ (List.mem_append_left _ (List.mem_append_left _ (List.mem_append_right _ h))) | exact List.mem_cons_of_mem _ (List.mem_append_left _ (List.mem_append_left _ (List.mem_append_left _ (List.mem_append_right _ h)))) | exact List.mem_cons_of_mem _ (List.mem_append_left _ (List.mem_append_left _ (List.mem_append_left _ (List.mem_append_left _ (List.mem_append_right _ h)))))
  refine g_aload_n 0 C rfl dX1_picture_0 rfl ?_
  refine g_aload_n 0 C rfl dX1_picture_1 rfl ?_
  refine g_get (C0 := RX1) (T := TX1) (N := 22) 0 1 9 (.int (τ.1 4)) C hin rfl rfl (by decide) (by decide +kernel) rfl dX1_picture_2 ?_
  refine g_is (nI ni) hni ?_
  refine g_bipush 8 C dX1_picture_5 (by decide) ?_
  refine g_icmp_ne 14 C dX1_picture_7 (by decide) (fun c_7_1 => ?_) (fun c_7_1 => ?_)
  ·
    have d_7_1 : ¬ ni = 8 := fun zz => c_7_1 ((nI_eq (a := ni) (b := 8) (by omega) (by omega)).mpr zz)
    refine g_iconst 0 C dX1_picture_14 (by decide) ?_
    refine g_put (C0 := RX1) (T := TX1) (N := 22) 0 1 0 (wM cI h (sS τ 0 (0))) C hin tyX1_ok nmX1 rfl rfl (by decide) (by decide +kernel) rfl (by decide +kernel) (Nat.le_of_ble_eq_true rfl) rfl dX1_picture_15 ?_
    refine g_aload_n 0 C rfl dX1_picture_18 rfl ?_
    refine g_get (C0 := RX1) (T := TX1) (N := 22) 0 1 0 (.int (0)) C hin rfl rfl (by decide) (by decide +kernel) rfl dX1_picture_19 ?_
    refine g_if_le 27 C dX1_picture_22 (by decide) (fun _ => ?_) (fun q => absurd q (by decide))
    refine g_aload_n 0 C rfl dX1_picture_27 rfl ?_
    refine g_dup C dX1_picture_28 rfl ?_
    refine g_get (C0 := RX1) (T := TX1) (N := 22) 0 1 9 (.int (τ.1 4)) C hin rfl rfl (by decide) (by decide +kernel) rfl dX1_picture_29 ?_
    refine g_is (nI ni) hni ?_
    refine g_iconst 1 C dX1_picture_32 (by decide) ?_
    refine g_iaddN ni 1 C dX1_picture_33 ?_
    refine g_put (C0 := RX1) (T := TX1) (N := 22) 0 1 9 (wM cI h (sS (sS τ 0 (0)) 4 (nI (ni + 1)))) C hin tyX1_ok nmX1 rfl rfl (by decide) (by decide +kernel) rfl (by decide +kernel) (Nat.le_of_ble_eq_true rfl) rfl dX1_picture_34 ?_
    refine g_aload_n 0 C rfl dX1_picture_37 rfl ?_
    refine g_get (C0 := RX1) (T := TX1) (N := 22) 0 1 9 (.int (nI (ni + 1))) C hin rfl rfl (by decide) (by decide +kernel) rfl dX1_picture_38 ?_
    refine g_iconst 1 C dX1_picture_41 (by decide) ?_
    refine g_isubN (ni + 1) 1 C (by omega) dX1_picture_42 ?_
    obtain rfl : K = 0 := hK.trans (by simp [tm_picture, c_7_1])
    exact g_iret C hr rfl dX1_picture_43 (Nat.zero_le _) (Nat.zero_le _) rfl rfl rfl
  ·
    have d_7_1 : ni = 8 := (nI_eq (a := ni) (b := 8) (by omega) (by omega)).mp c_7_1
    refine g_iconst 1 C dX1_picture_10 (by decide) ?_
    refine g_goto 15 C dX1_picture_11 (by decide) ?_
    refine g_put (C0 := RX1) (T := TX1) (N := 22) 0 1 0 (wM cI h (sS τ 0 (1))) C hin tyX1_ok nmX1 rfl rfl (by decide) (by decide +kernel) rfl (by decide +kernel) (Nat.le_of_ble_eq_true rfl) rfl dX1_picture_15 ?_
    refine g_aload_n 0 C rfl dX1_picture_18 rfl ?_
    refine g_get (C0 := RX1) (T := TX1) (N := 22) 0 1 0 (.int (1)) C hin rfl rfl (by decide) (by decide +kernel) rfl dX1_picture_19 ?_
    refine g_if_le 27 C dX1_picture_22 (by decide) (fun q => absurd q (by decide)) (fun _ => ?_)
    refine g_iconst 0 C dX1_picture_25 (by decide) ?_
    obtain rfl : K = 1 := hK.trans (by simp [tm_picture, c_7_1])
    exact g_iret C hr rfl dX1_picture_26 (Nat.zero_le _) (Nat.zero_le _) rfl rfl rfl
set_option maxRecDepth 100000 in
set_option maxHeartbeats 4000000 in
theorem c_m_squeeze (l : Launch) (D : va_G) (cI cJ : ClassId) (h : Nat → Nat) (τ : gS) (np nt no ni : Nat) (hI : iM0 τ np nt no ni) (x t g : Int32) (K : Nat) (hK : K = tm_squeeze τ nt no x t g) : MC l yX1_squeeze wsX1_squeeze 2 43 D (tyIJ cI cJ) [.ref (h 0), .int (x), .int (t), .int (g)] (wM cI h τ) (wM cI h (mS K τ (m_squeeze τ (cl x) (cl t) g))) none (some (.int (mR K (τ.2 2 (cl t) - g)))) 0 := by
  have hI0 := hI
  obtain ⟨⟨hnp, hnp6⟩, ⟨hnt, hnt12⟩, ⟨hno, hno10⟩, ⟨hni, hni8⟩, hPT, hLC, hHS⟩ := hI
  refine MC.ofG (cc := cX1_squeeze) (maxL := 4) (ret := (some .int)) [(0, .ref (h 0)), (1, .int (x)), (2, .int (t)), (3, .int (g))] (by decide) rfl (Nat.le_of_ble_eq_true rfl) rfl ?_
  intro p e s m args below meth c C hr hout
  have hin : ∀ w ∈ wsX10, w ∈ wsX1_squeeze := fun w h => by first | exact List.mem_cons_of_mem _ (List.mem_append_right _ h) | exact List.mem_cons_of_mem _ (List.mem_append_left _ (List.mem_append_right _ h)) | exact List.mem_cons_of_mem _ (List.mem_append_left _ (List.mem_append_left _ (List.mem_append_right _ h))) | exact List.mem_cons_of_mem _ (List.mem_append_left _ (List.mem_append_left _ (List.mem_append_left _ (List.mem_append_right _ h)))) | exact List.mem_cons_of_mem _ (List.mem_append_left _ (List.mem_append_left _ (List.mem_append_left _ (List.mem_append_left _ (List.mem_append_right _ h)))))
  refine g_aload_n 0 C rfl dX1_squeeze_0 rfl ?_
  refine g_aload_n 0 C rfl dX1_squeeze_1 rfl ?_
  refine g_iload_n 1 C rfl dX1_squeeze_2 rfl ?_
  refine g_callV0 (C0 := RX1) (T := TX1) (N := 22) (ci := 1) (na := 1) (As := [.int (x)]) (c_m_isPot l D cI cJ h τ np nt no ni hI0 (x)) C gX1_squeeze_X1_isPot rfl (by decide +kernel) rfl ⟨Nat.le_of_ble_eq_true rfl, Nat.le_of_ble_eq_true rfl⟩ rfl rfl rfl (Nat.le_of_ble_eq_true rfl) ⟨Nat.zero_le _, Nat.zero_le _⟩ rfl dX1_squeeze_3 ?_
  refine g_if_eq 17 C dX1_squeeze_6 (by decide) (fun c_6_1 => ?_) (fun c_6_1 => ?_)
  ·
    have b_6_1 : bad (x) (nI no) := Classical.byContradiction (bI_eq c_6_1)
    refine g_iconst 1 C dX1_squeeze_17 (by decide) ?_
    refine g_goto 51 C dX1_squeeze_18 (by decide) ?_
    refine g_put (C0 := RX1) (T := TX1) (N := 22) 0 1 0 (wM cI h (sS τ 0 (1))) C hin tyX1_ok nmX1 rfl rfl (by decide) (by decide +kernel) rfl (by decide +kernel) (Nat.le_of_ble_eq_true rfl) rfl dX1_squeeze_51 ?_
    refine g_aload_n 0 C rfl dX1_squeeze_54 rfl ?_
    refine g_get (C0 := RX1) (T := TX1) (N := 22) 0 1 0 (.int (1)) C hin rfl rfl (by decide) (by decide +kernel) rfl dX1_squeeze_55 ?_
    refine g_if_le 63 C dX1_squeeze_58 (by decide) (fun q => absurd q (by decide)) (fun _ => ?_)
    refine g_iconst 0 C dX1_squeeze_61 (by decide) ?_
    obtain rfl : K = 1 := hK.trans (by simp [tm_squeeze, b_6_1])
    exact g_iret C hr rfl dX1_squeeze_62 (Nat.zero_le _) (Nat.zero_le _) rfl rfl rfl
  ·
    have b_6_1 : ¬ bad (x) (nI no) := bI_ne c_6_1
    refine g_aload_n 0 C rfl dX1_squeeze_9 rfl ?_
    refine g_iload_n 2 C rfl dX1_squeeze_10 rfl ?_
    refine g_callV0 (C0 := RX1) (T := TX1) (N := 22) (ci := 1) (na := 1) (As := [.int (t)]) (c_m_isTube l D cI cJ h τ np nt no ni hI0 (t)) C gX1_squeeze_X1_isTube rfl (by decide +kernel) rfl ⟨Nat.le_of_ble_eq_true rfl, Nat.le_of_ble_eq_true rfl⟩ rfl rfl rfl (Nat.le_of_ble_eq_true rfl) ⟨Nat.zero_le _, Nat.zero_le _⟩ rfl dX1_squeeze_11 ?_
    refine g_if_ne 21 C dX1_squeeze_14 (by decide) (fun c_14_2 => ?_) (fun c_14_2 => ?_)
    ·
      have b_14_2 : ¬ bad (t) (nI nt) := bI_ne c_14_2
      refine g_iload_n 3 C rfl dX1_squeeze_21 rfl ?_
      refine g_iconst 1 C dX1_squeeze_22 (by decide) ?_
      refine g_sipush 1000 C dX1_squeeze_23 (by decide) ?_
      refine g_callS0 (na := 3) (av := [.int (g), .int (1), .int (1000)]) (c_m_in l D cI cJ _ (g) (1) (1000)) C gX1_squeeze_X1_in rfl (by decide +kernel) rfl ⟨Nat.le_of_ble_eq_true rfl, Nat.le_of_ble_eq_true rfl⟩ rfl (Nat.le_of_ble_eq_true rfl) ⟨Nat.zero_le _, Nat.zero_le _⟩ rfl dX1_squeeze_26 ?_
      refine g_if_ne 36 C dX1_squeeze_29 (by decide) (fun c_29_3 => ?_) (fun c_29_3 => ?_)
      ·
        have b_29_3 : ¬ out (g) (1) (1000) := bI_ne c_29_3
        obtain ⟨x', hx', rfl⟩ := nb_of (N := no) rfl (by omega) b_6_1
        have kx' : cl (nI x') = x' := cl_nI (by omega)
        obtain ⟨t', ht', rfl⟩ := nb_of (N := nt) rfl (by omega) b_14_2
        have kt' : cl (nI t') = t' := cl_nI (by omega)
        refine g_aload_n 0 C rfl dX1_squeeze_36 rfl ?_
        refine g_get (C0 := RX1) (T := TX1) (N := 22) 0 1 5 (.ref (h 3)) C hin rfl rfl (by decide) (by decide +kernel) rfl dX1_squeeze_37 ?_
        refine g_iload_n 2 C rfl dX1_squeeze_40 rfl ?_
        refine g_ialdN (cA := cI) (n := 12) (a := h 3) (f := τ.2 2) t' 3 0 C rfl rfl (by omega) (by decide) dX1_squeeze_41 ?_
        refine g_iload_n 3 C rfl dX1_squeeze_42 rfl ?_
        refine g_icmp_ge 50 C dX1_squeeze_43 (by decide) (fun c_43_4 => ?_) (fun c_43_4 => ?_)
        ·
          refine g_iconst 0 C dX1_squeeze_50 (by decide) ?_
          refine g_put (C0 := RX1) (T := TX1) (N := 22) 0 1 0 (wM cI h (sS τ 0 (0))) C hin tyX1_ok nmX1 rfl rfl (by decide) (by decide +kernel) rfl (by decide +kernel) (Nat.le_of_ble_eq_true rfl) rfl dX1_squeeze_51 ?_
          refine g_aload_n 0 C rfl dX1_squeeze_54 rfl ?_
          refine g_get (C0 := RX1) (T := TX1) (N := 22) 0 1 0 (.int (0)) C hin rfl rfl (by decide) (by decide +kernel) rfl dX1_squeeze_55 ?_
          refine g_if_le 63 C dX1_squeeze_58 (by decide) (fun _ => ?_) (fun q => absurd q (by decide))
          refine g_aload_n 0 C rfl dX1_squeeze_63 rfl ?_
          refine g_get (C0 := RX1) (T := TX1) (N := 22) 0 1 5 (.ref (h 3)) C hin rfl rfl (by decide) (by decide +kernel) rfl dX1_squeeze_64 ?_
          refine g_iload_n 2 C rfl dX1_squeeze_67 rfl ?_
          refine g_dup2 C dX1_squeeze_68 rfl rfl ?_
          refine g_ialdN (cA := cI) (n := 12) (a := h 3) (f := τ.2 2) t' 3 0 C rfl rfl (by omega) (by decide) dX1_squeeze_69 ?_
          refine g_iload_n 3 C rfl dX1_squeeze_70 rfl ?_
          refine g_isub C dX1_squeeze_71 ?_
          refine g_iastN (cA := cI) (n := 12) (a := h 3) (f := τ.2 2) (x := ((τ.2 2 t') - g)) t' 3 0 (wM cI h (sA (sS τ 0 (0)) 2 (upd (τ.2 2) t' (((τ.2 2 t') - g))))) C rfl rfl (by omega) (by decide) rfl dX1_squeeze_72 ?_
          refine g_aload_n 0 C rfl dX1_squeeze_73 rfl ?_
          refine g_get (C0 := RX1) (T := TX1) (N := 22) 0 1 8 (.ref (h 5)) C hin rfl rfl (by decide) (by decide +kernel) rfl dX1_squeeze_74 ?_
          refine g_bipush 12 C dX1_squeeze_77 (by decide) ?_
          refine g_iload_n 1 C rfl dX1_squeeze_79 rfl ?_
          refine g_imulN 12 x' C dX1_squeeze_80 ?_
          refine g_iload_n 2 C rfl dX1_squeeze_81 rfl ?_
          refine g_iaddN (12 * x') t' C dX1_squeeze_82 ?_
          refine g_dup2 C dX1_squeeze_83 rfl rfl ?_
          refine g_ialdN (cA := cI) (n := 120) (a := h 5) (f := τ.2 4) ((12 * x') + t') 5 0 C rfl rfl (by omega) (by decide) dX1_squeeze_84 ?_
          refine g_iload_n 3 C rfl dX1_squeeze_85 rfl ?_
          refine g_iadd C dX1_squeeze_86 ?_
          refine g_iastN (cA := cI) (n := 120) (a := h 5) (f := τ.2 4) (x := ((τ.2 4 ((12 * x') + t')) + g)) ((12 * x') + t') 5 0 (wM cI h (sA (sA (sS τ 0 (0)) 2 (upd (τ.2 2) t' (((τ.2 2 t') - g)))) 4 (upd (τ.2 4) ((12 * x') + t') (((τ.2 4 ((12 * x') + t')) + g))))) C rfl rfl (by omega) (by decide) rfl dX1_squeeze_87 ?_
          refine g_aload_n 0 C rfl dX1_squeeze_88 rfl ?_
          refine g_get (C0 := RX1) (T := TX1) (N := 22) 0 1 5 (.ref (h 3)) C hin rfl rfl (by decide) (by decide +kernel) rfl dX1_squeeze_89 ?_
          refine g_iload_n 2 C rfl dX1_squeeze_92 rfl ?_
          refine g_ialdN (cA := cI) (n := 12) (a := h 3) (f := upd (τ.2 2) t' (((τ.2 2 t') - g))) t' 3 0 C rfl rfl (by omega) (by decide) dX1_squeeze_93 ?_
          refine g_is (((τ.2 2 t') - g)) pk_us ?_
          obtain rfl : K = 0 := hK.trans (by simp [tm_squeeze, b_6_1, b_14_2, b_29_3, c_43_4, kx', kt'])
          exact g_iret C hr rfl dX1_squeeze_94 (Nat.zero_le _) (Nat.zero_le _) rfl (by rw [kt']; rfl) (by rw [kx', kt']; rfl)
        ·
          refine g_iconst 3 C dX1_squeeze_46 (by decide) ?_
          refine g_goto 51 C dX1_squeeze_47 (by decide) ?_
          refine g_put (C0 := RX1) (T := TX1) (N := 22) 0 1 0 (wM cI h (sS τ 0 (3))) C hin tyX1_ok nmX1 rfl rfl (by decide) (by decide +kernel) rfl (by decide +kernel) (Nat.le_of_ble_eq_true rfl) rfl dX1_squeeze_51 ?_
          refine g_aload_n 0 C rfl dX1_squeeze_54 rfl ?_
          refine g_get (C0 := RX1) (T := TX1) (N := 22) 0 1 0 (.int (3)) C hin rfl rfl (by decide) (by decide +kernel) rfl dX1_squeeze_55 ?_
          refine g_if_le 63 C dX1_squeeze_58 (by decide) (fun q => absurd q (by decide)) (fun _ => ?_)
          refine g_iconst 0 C dX1_squeeze_61 (by decide) ?_
          obtain rfl : K = 3 := hK.trans (by simp [tm_squeeze, b_6_1, b_14_2, b_29_3, c_43_4, kx', kt'])
          exact g_iret C hr rfl dX1_squeeze_62 (Nat.zero_le _) (Nat.zero_le _) rfl rfl rfl
      ·
        have b_29_3 : out (g) (1) (1000) := Classical.byContradiction (bI_eq c_29_3)
        refine g_iconst 2 C dX1_squeeze_32 (by decide) ?_
        refine g_goto 51 C dX1_squeeze_33 (by decide) ?_
        refine g_put (C0 := RX1) (T := TX1) (N := 22) 0 1 0 (wM cI h (sS τ 0 (2))) C hin tyX1_ok nmX1 rfl rfl (by decide) (by decide +kernel) rfl (by decide +kernel) (Nat.le_of_ble_eq_true rfl) rfl dX1_squeeze_51 ?_
        refine g_aload_n 0 C rfl dX1_squeeze_54 rfl ?_
        refine g_get (C0 := RX1) (T := TX1) (N := 22) 0 1 0 (.int (2)) C hin rfl rfl (by decide) (by decide +kernel) rfl dX1_squeeze_55 ?_
        refine g_if_le 63 C dX1_squeeze_58 (by decide) (fun q => absurd q (by decide)) (fun _ => ?_)
        refine g_iconst 0 C dX1_squeeze_61 (by decide) ?_
        obtain rfl : K = 2 := hK.trans (by simp [tm_squeeze, b_6_1, b_14_2, b_29_3])
        exact g_iret C hr rfl dX1_squeeze_62 (Nat.zero_le _) (Nat.zero_le _) rfl rfl rfl
    ·
      have b_14_2 : bad (t) (nI nt) := Classical.byContradiction (bI_eq c_14_2)
      refine g_iconst 1 C dX1_squeeze_17 (by decide) ?_
      refine g_goto 51 C dX1_squeeze_18 (by decide) ?_
      refine g_put (C0 := RX1) (T := TX1) (N := 22) 0 1 0 (wM cI h (sS τ 0 (1))) C hin tyX1_ok nmX1 rfl rfl (by decide) (by decide +kernel) rfl (by decide +kernel) (Nat.le_of_ble_eq_true rfl) rfl dX1_squeeze_51 ?_
      refine g_aload_n 0 C rfl dX1_squeeze_54 rfl ?_
      refine g_get (C0 := RX1) (T := TX1) (N := 22) 0 1 0 (.int (1)) C hin rfl rfl (by decide) (by decide +kernel) rfl dX1_squeeze_55 ?_
      refine g_if_le 63 C dX1_squeeze_58 (by decide) (fun q => absurd q (by decide)) (fun _ => ?_)
      refine g_iconst 0 C dX1_squeeze_61 (by decide) ?_
      obtain rfl : K = 1 := hK.trans (by simp [tm_squeeze, b_6_1, b_14_2])
      exact g_iret C hr rfl dX1_squeeze_62 (Nat.zero_le _) (Nat.zero_le _) rfl rfl rfl
set_option maxRecDepth 100000 in
set_option maxHeartbeats 4000000 in
theorem c_m_pour (l : Launch) (D : va_G) (cI cJ : ClassId) (h : Nat → Nat) (τ : gS) (np nt no ni : Nat) (hI : iM0 τ np nt no ni) (x y g : Int32) (K : Nat) (hK : K = tm_pour τ no x y g) : MC l yX1_pour wsX1_pour 2 49 D (tyIJ cI cJ) [.ref (h 0), .int (x), .int (y), .int (g)] (wM cI h τ) (wM cI h (mS K τ (m_pour τ (cl x) (cl y) g))) none (some (.int (mR K (potS (addF (subF (τ.2 4) (flwF τ (cl x) g) (12 * cl x) 12) (flwF τ (cl x) g) (12 * cl y) 12) (cl y) 12)))) 0 := by
  have hI0 := hI
  obtain ⟨⟨hnp, hnp6⟩, ⟨hnt, hnt12⟩, ⟨hno, hno10⟩, ⟨hni, hni8⟩, hPT, hLC, hHS⟩ := hI
  refine MC.ofG (cc := cX1_pour) (maxL := 5) (ret := (some .int)) [(0, .ref (h 0)), (1, .int (x)), (2, .int (y)), (3, .int (g))] (by decide) rfl (Nat.le_of_ble_eq_true rfl) rfl ?_
  intro p e s m args below meth c C hr hout
  have hin : ∀ w ∈ wsX10, w ∈ wsX1_pour := fun w h => by first | exact List.mem_cons_of_mem _ (List.mem_append_right _ h) | exact List.mem_cons_of_mem _ (List.mem_append_left _ (List.mem_append_right _ h)) | exact List.mem_cons_of_mem _ (List.mem_append_left _ (List.mem_append_left _ (List.mem_append_right _ h))) | exact List.mem_cons_of_mem _ (List.mem_append_left _ (List.mem_append_left _ (List.mem_append_left _ (List.mem_append_right _ h)))) | exact List.mem_cons_of_mem _ (List.mem_append_left _ (List.mem_append_left _ (List.mem_append_left _ (List.mem_append_left _ (List.mem_append_right _ h)))))
  refine g_aload_n 0 C rfl dX1_pour_0 rfl ?_
  refine g_aload_n 0 C rfl dX1_pour_1 rfl ?_
  refine g_iload_n 1 C rfl dX1_pour_2 rfl ?_
  refine g_callV0 (C0 := RX1) (T := TX1) (N := 22) (ci := 1) (na := 1) (As := [.int (x)]) (c_m_isPot l D cI cJ h τ np nt no ni hI0 (x)) C gX1_pour_X1_isPot rfl (by decide +kernel) rfl ⟨Nat.le_of_ble_eq_true rfl, Nat.le_of_ble_eq_true rfl⟩ rfl rfl rfl (Nat.le_of_ble_eq_true rfl) ⟨Nat.zero_le _, Nat.zero_le _⟩ rfl dX1_pour_3 ?_
  refine g_if_eq 17 C dX1_pour_6 (by decide) (fun c_6_1 => ?_) (fun c_6_1 => ?_)
  ·
    have b_6_1 : bad (x) (nI no) := Classical.byContradiction (bI_eq c_6_1)
    refine g_iconst 1 C dX1_pour_17 (by decide) ?_
    refine g_goto 55 C dX1_pour_18 (by decide) ?_
    refine g_put (C0 := RX1) (T := TX1) (N := 22) 0 1 0 (wM cI h (sS τ 0 (1))) C hin tyX1_ok nmX1 rfl rfl (by decide) (by decide +kernel) rfl (by decide +kernel) (Nat.le_of_ble_eq_true rfl) rfl dX1_pour_55 ?_
    refine g_aload_n 0 C rfl dX1_pour_58 rfl ?_
    refine g_get (C0 := RX1) (T := TX1) (N := 22) 0 1 0 (.int (1)) C hin rfl rfl (by decide) (by decide +kernel) rfl dX1_pour_59 ?_
    refine g_if_le 67 C dX1_pour_62 (by decide) (fun q => absurd q (by decide)) (fun _ => ?_)
    refine g_iconst 0 C dX1_pour_65 (by decide) ?_
    obtain rfl : K = 1 := hK.trans (by simp [tm_pour, b_6_1])
    exact g_iret C hr rfl dX1_pour_66 (Nat.zero_le _) (Nat.zero_le _) rfl rfl rfl
  ·
    have b_6_1 : ¬ bad (x) (nI no) := bI_ne c_6_1
    refine g_aload_n 0 C rfl dX1_pour_9 rfl ?_
    refine g_iload_n 2 C rfl dX1_pour_10 rfl ?_
    refine g_callV0 (C0 := RX1) (T := TX1) (N := 22) (ci := 1) (na := 1) (As := [.int (y)]) (c_m_isPot l D cI cJ h τ np nt no ni hI0 (y)) C gX1_pour_X1_isPot rfl (by decide +kernel) rfl ⟨Nat.le_of_ble_eq_true rfl, Nat.le_of_ble_eq_true rfl⟩ rfl rfl rfl (Nat.le_of_ble_eq_true rfl) ⟨Nat.zero_le _, Nat.zero_le _⟩ rfl dX1_pour_11 ?_
    refine g_if_ne 21 C dX1_pour_14 (by decide) (fun c_14_2 => ?_) (fun c_14_2 => ?_)
    ·
      have b_14_2 : ¬ bad (y) (nI no) := bI_ne c_14_2
      obtain ⟨x', hx', rfl⟩ := nb_of (N := no) rfl (by omega) b_6_1
      have kx' : cl (nI x') = x' := cl_nI (by omega)
      obtain ⟨y', hy', rfl⟩ := nb_of (N := no) rfl (by omega) b_14_2
      have ky' : cl (nI y') = y' := cl_nI (by omega)
      refine g_iload_n 1 C rfl dX1_pour_21 rfl ?_
      refine g_iload_n 2 C rfl dX1_pour_22 rfl ?_
      refine g_icmp_eq 37 C dX1_pour_23 (by decide) (fun c_23_3 => ?_) (fun c_23_3 => ?_)
      ·
        have d_23_3 : x' = y' := (nI_eq (a := x') (b := y') (by omega) (by omega)).mp c_23_3
        refine g_iconst 2 C dX1_pour_37 (by decide) ?_
        refine g_goto 55 C dX1_pour_38 (by decide) ?_
        refine g_put (C0 := RX1) (T := TX1) (N := 22) 0 1 0 (wM cI h (sS τ 0 (2))) C hin tyX1_ok nmX1 rfl rfl (by decide) (by decide +kernel) rfl (by decide +kernel) (Nat.le_of_ble_eq_true rfl) rfl dX1_pour_55 ?_
        refine g_aload_n 0 C rfl dX1_pour_58 rfl ?_
        refine g_get (C0 := RX1) (T := TX1) (N := 22) 0 1 0 (.int (2)) C hin rfl rfl (by decide) (by decide +kernel) rfl dX1_pour_59 ?_
        refine g_if_le 67 C dX1_pour_62 (by decide) (fun q => absurd q (by decide)) (fun _ => ?_)
        refine g_iconst 0 C dX1_pour_65 (by decide) ?_
        obtain rfl : K = 2 := hK.trans (by simp [tm_pour, b_6_1, b_14_2, c_23_3, kx', ky'])
        exact g_iret C hr rfl dX1_pour_66 (Nat.zero_le _) (Nat.zero_le _) rfl rfl rfl
      ·
        have d_23_3 : ¬ x' = y' := fun zz => c_23_3 ((nI_eq (a := x') (b := y') (by omega) (by omega)).mpr zz)
        refine g_iload_n 3 C rfl dX1_pour_26 rfl ?_
        refine g_iconst 1 C dX1_pour_27 (by decide) ?_
        refine g_sipush 12000 C dX1_pour_28 (by decide) ?_
        refine g_callS0 (na := 3) (av := [.int (g), .int (1), .int (12000)]) (c_m_in l D cI cJ _ (g) (1) (12000)) C gX1_pour_X1_in rfl (by decide +kernel) rfl ⟨Nat.le_of_ble_eq_true rfl, Nat.le_of_ble_eq_true rfl⟩ rfl (Nat.le_of_ble_eq_true rfl) ⟨Nat.zero_le _, Nat.zero_le _⟩ rfl dX1_pour_31 ?_
        refine g_if_ne 41 C dX1_pour_34 (by decide) (fun c_34_4 => ?_) (fun c_34_4 => ?_)
        ·
          have b_34_4 : ¬ out (g) (1) (12000) := bI_ne c_34_4
          refine g_aload_n 0 C rfl dX1_pour_41 rfl ?_
          refine g_iload_n 1 C rfl dX1_pour_42 rfl ?_
          refine g_callV0 (C0 := RX1) (T := TX1) (N := 22) (ci := 1) (na := 1) (As := [.int (nI (x'))]) (c_m_gramsOf l D cI cJ h τ np nt no ni hI0 x' (by omega)) C gX1_pour_X1_gramsOf rfl (by decide +kernel) rfl ⟨Nat.le_of_ble_eq_true rfl, Nat.le_of_ble_eq_true rfl⟩ rfl rfl rfl (Nat.le_of_ble_eq_true rfl) ⟨Nat.zero_le _, Nat.zero_le _⟩ rfl dX1_pour_43 ?_
          refine g_iload_n 3 C rfl dX1_pour_46 rfl ?_
          refine g_icmp_ge 54 C dX1_pour_47 (by decide) (fun c_47_5 => ?_) (fun c_47_5 => ?_)
          ·
            refine g_iconst 0 C dX1_pour_54 (by decide) ?_
            refine g_put (C0 := RX1) (T := TX1) (N := 22) 0 1 0 (wM cI h (sS τ 0 (0))) C hin tyX1_ok nmX1 rfl rfl (by decide) (by decide +kernel) rfl (by decide +kernel) (Nat.le_of_ble_eq_true rfl) rfl dX1_pour_55 ?_
            refine g_aload_n 0 C rfl dX1_pour_58 rfl ?_
            refine g_get (C0 := RX1) (T := TX1) (N := 22) 0 1 0 (.int (0)) C hin rfl rfl (by decide) (by decide +kernel) rfl dX1_pour_59 ?_
            refine g_if_le 67 C dX1_pour_62 (by decide) (fun _ => ?_) (fun q => absurd q (by decide))
            have hz : ¬ potS (τ.2 4) x' 12 = 0 := le_n0 (out_lo b_34_4) c_47_5
            refine g_aload_n 0 C rfl dX1_pour_67 rfl ?_
            refine g_iload_n 1 C rfl dX1_pour_68 rfl ?_
            refine g_iload_n 3 C rfl dX1_pour_69 rfl ?_
            refine g_callV0 (C0 := RX1) (T := TX1) (N := 22) (ci := 1) (na := 2) (As := [.int (nI (x')), .int (g)]) (c_m_flows l D cI cJ h (sS τ 0 (0)) np nt no ni hI0 x' (g) (by omega) hz) C gX1_pour_X1_flows rfl (by decide +kernel) rfl ⟨Nat.le_of_ble_eq_true rfl, Nat.le_of_ble_eq_true rfl⟩ rfl rfl rfl (Nat.le_of_ble_eq_true rfl) ⟨Nat.zero_le _, Nat.zero_le _⟩ rfl dX1_pour_70 ?_
            refine g_w (wM cI h (sA (sA (sS τ 0 (0)) 14 (flwF τ x' (g))) 4 (subF (τ.2 4) (flwF τ x' (g)) (12 * x') 12))) rfl ?_
            refine g_iconst 0 C dX1_pour_73 (by decide) ?_
            refine g_istore [(4, .int (0)), (0, .ref (h 0)), (1, .int (nI (x'))), (2, .int (nI (y'))), (3, .int (g))] C dX1_pour_74 (by decide) rfl ?_
            have loop_76 : ∀ (fu : Nat) (i : Nat), i ≤ 12 → 13 ≤ i + fu → G p l e ({ frames := 2, cells := 0, slots := 6 * 0, locals := 49 } : Room) s m args below meth c D (va_A (wM cI h τ) s.heap.size) 5 0 0 (gQ below D (wM cI h τ) (wM cI h (mS K τ (m_pour τ (cl (nI x')) (cl (nI y')) g))) none (some (.int (mR K (potS (addF (subF (τ.2 4) (flwF τ (cl (nI x')) g) (12 * cl (nI x')) 12) (flwF τ (cl (nI x')) g) (12 * cl (nI y')) 12) (cl (nI y')) 12)))) 0 args s) (wM cI h (sA (sA (sS τ 0 (0)) 14 (flwF τ x' (g))) 4 (addF (subF (τ.2 4) (flwF τ x' (g)) (12 * x') 12) (flwF τ x' (g)) (12 * y') i))) [(0, .ref (h 0)), (2, .int (nI (y'))), (4, .int (nI (i)))] 76 [] := by
              intro fu
              induction fu with
              | zero => intro i hi hf; exact absurd True.intro (by omega)
              | succ fu ih_76 =>
                intro i hi hf
                refine g_iload 2 C rfl dX1_pour_76 ?_
                refine g_bipush 12 C dX1_pour_78 (by decide) ?_
                refine g_icmp_ge 111 C dX1_pour_80 (by decide) (fun c_80_6 => ?_) (fun c_80_6 => ?_)
                ·
                  have d_80_6 : 12 ≤ i := (nI_leI (a := 12) (b := i) (by omega) (by omega)).mp c_80_6
                  obtain rfl : i = 12 := by omega
                  refine g_aload_n 0 C rfl dX1_pour_111 rfl ?_
                  refine g_iload_n 1 C rfl dX1_pour_112 rfl ?_
                  refine g_callV0 (C0 := RX1) (T := TX1) (N := 22) (ci := 1) (na := 1) (As := [.int (nI (y'))]) (c_m_gramsOf l D cI cJ h (sA (sA (sS τ 0 (0)) 14 (flwF τ x' (g))) 4 (addF (subF (τ.2 4) (flwF τ x' (g)) (12 * x') 12) (flwF τ x' (g)) (12 * y') 12)) np nt no ni hI0 y' (by omega)) C gX1_pour_X1_gramsOf rfl (by decide +kernel) rfl ⟨Nat.le_of_ble_eq_true rfl, Nat.le_of_ble_eq_true rfl⟩ rfl rfl rfl (Nat.le_of_ble_eq_true rfl) ⟨Nat.zero_le _, Nat.zero_le _⟩ rfl dX1_pour_113 ?_
                  obtain rfl : K = 0 := hK.trans (by simp [tm_pour, b_6_1, b_14_2, c_23_3, b_34_4, c_47_5, c_80_6, kx', ky'])
                  exact g_iret C hr rfl dX1_pour_116 (Nat.zero_le _) (Nat.zero_le _) rfl (by rw [kx', ky']; rfl) (by rw [kx', ky']; rfl)
                ·
                  have d_80_6 : ¬ 12 ≤ i := fun zz => c_80_6 ((nI_leI (a := 12) (b := i) (by omega) (by omega)).mpr zz)
                  refine g_aload_n 0 C rfl dX1_pour_83 rfl ?_
                  refine g_get (C0 := RX1) (T := TX1) (N := 22) 0 1 8 (.ref (h 5)) C hin rfl rfl (by decide) (by decide +kernel) rfl dX1_pour_84 ?_
                  refine g_bipush 12 C dX1_pour_87 (by decide) ?_
                  refine g_iload_n 1 C rfl dX1_pour_89 rfl ?_
                  refine g_imulN 12 y' C dX1_pour_90 ?_
                  refine g_iload 2 C rfl dX1_pour_91 ?_
                  refine g_iaddN (12 * y') i C dX1_pour_93 ?_
                  refine g_dup2 C dX1_pour_94 rfl rfl ?_
                  refine g_ialdN (cA := cI) (n := 120) (a := h 5) (f := addF (subF (τ.2 4) (flwF τ x' (g)) (12 * x') 12) (flwF τ x' (g)) (12 * y') i) ((12 * y') + i) 5 0 C rfl rfl (by omega) (by decide) dX1_pour_95 ?_
                  refine g_aload_n 0 C rfl dX1_pour_96 rfl ?_
                  refine g_get (C0 := RX1) (T := TX1) (N := 22) 0 1 20 (.ref (h 15)) C hin rfl rfl (by decide) (by decide +kernel) rfl dX1_pour_97 ?_
                  refine g_iload 2 C rfl dX1_pour_100 ?_
                  refine g_ialdN (cA := cI) (n := 12) (a := h 15) (f := flwF τ x' (g)) i 15 0 C rfl rfl (by omega) (by decide) dX1_pour_102 ?_
                  refine g_iadd C dX1_pour_103 ?_
                  refine g_iastN (cA := cI) (n := 120) (a := h 5) (f := addF (subF (τ.2 4) (flwF τ x' (g)) (12 * x') 12) (flwF τ x' (g)) (12 * y') i) (x := (((addF (subF (τ.2 4) (flwF τ x' (g)) (12 * x') 12) (flwF τ x' (g)) (12 * y') i) ((12 * y') + i)) + ((flwF τ x' (g)) i))) ((12 * y') + i) 5 0 (wM cI h (sA (sA (sS τ 0 (0)) 14 (flwF τ x' (g))) 4 (upd (addF (subF (τ.2 4) (flwF τ x' (g)) (12 * x') 12) (flwF τ x' (g)) (12 * y') i) ((12 * y') + i) ((((addF (subF (τ.2 4) (flwF τ x' (g)) (12 * x') 12) (flwF τ x' (g)) (12 * y') i) ((12 * y') + i)) + ((flwF τ x' (g)) i)))))) C rfl rfl (by omega) (by decide) rfl dX1_pour_104 ?_
                  refine g_iincN 2 i 1 [(4, .int (nI (i + 1))), (0, .ref (h 0)), (2, .int (nI (y')))] C dX1_pour_105 rfl (by decide) (by decide) rfl ?_
                  refine g_goto 76 C dX1_pour_108 (by decide) ?_
                  refine g_lv [1, 2, 0] [(0, .ref (h 0)), (2, .int (nI (y'))), (4, .int (nI (i + 1)))] rfl ?_
                  exact ih_76 (i + 1) (by omega) (by omega)
            refine g_lv [1, 3, 0] [(0, .ref (h 0)), (2, .int (nI (y'))), (4, .int (0))] rfl ?_
            exact loop_76 13 0 (by omega) (by omega)
          ·
            refine g_iconst 3 C dX1_pour_50 (by decide) ?_
            refine g_goto 55 C dX1_pour_51 (by decide) ?_
            refine g_put (C0 := RX1) (T := TX1) (N := 22) 0 1 0 (wM cI h (sS τ 0 (3))) C hin tyX1_ok nmX1 rfl rfl (by decide) (by decide +kernel) rfl (by decide +kernel) (Nat.le_of_ble_eq_true rfl) rfl dX1_pour_55 ?_
            refine g_aload_n 0 C rfl dX1_pour_58 rfl ?_
            refine g_get (C0 := RX1) (T := TX1) (N := 22) 0 1 0 (.int (3)) C hin rfl rfl (by decide) (by decide +kernel) rfl dX1_pour_59 ?_
            refine g_if_le 67 C dX1_pour_62 (by decide) (fun q => absurd q (by decide)) (fun _ => ?_)
            refine g_iconst 0 C dX1_pour_65 (by decide) ?_
            obtain rfl : K = 3 := hK.trans (by simp [tm_pour, b_6_1, b_14_2, c_23_3, b_34_4, c_47_5, kx', ky'])
            exact g_iret C hr rfl dX1_pour_66 (Nat.zero_le _) (Nat.zero_le _) rfl rfl rfl
        ·
          have b_34_4 : out (g) (1) (12000) := Classical.byContradiction (bI_eq c_34_4)
          refine g_iconst 2 C dX1_pour_37 (by decide) ?_
          refine g_goto 55 C dX1_pour_38 (by decide) ?_
          refine g_put (C0 := RX1) (T := TX1) (N := 22) 0 1 0 (wM cI h (sS τ 0 (2))) C hin tyX1_ok nmX1 rfl rfl (by decide) (by decide +kernel) rfl (by decide +kernel) (Nat.le_of_ble_eq_true rfl) rfl dX1_pour_55 ?_
          refine g_aload_n 0 C rfl dX1_pour_58 rfl ?_
          refine g_get (C0 := RX1) (T := TX1) (N := 22) 0 1 0 (.int (2)) C hin rfl rfl (by decide) (by decide +kernel) rfl dX1_pour_59 ?_
          refine g_if_le 67 C dX1_pour_62 (by decide) (fun q => absurd q (by decide)) (fun _ => ?_)
          refine g_iconst 0 C dX1_pour_65 (by decide) ?_
          obtain rfl : K = 2 := hK.trans (by simp [tm_pour, b_6_1, b_14_2, c_23_3, b_34_4, kx', ky'])
          exact g_iret C hr rfl dX1_pour_66 (Nat.zero_le _) (Nat.zero_le _) rfl rfl rfl
    ·
      have b_14_2 : bad (y) (nI no) := Classical.byContradiction (bI_eq c_14_2)
      refine g_iconst 1 C dX1_pour_17 (by decide) ?_
      refine g_goto 55 C dX1_pour_18 (by decide) ?_
      refine g_put (C0 := RX1) (T := TX1) (N := 22) 0 1 0 (wM cI h (sS τ 0 (1))) C hin tyX1_ok nmX1 rfl rfl (by decide) (by decide +kernel) rfl (by decide +kernel) (Nat.le_of_ble_eq_true rfl) rfl dX1_pour_55 ?_
      refine g_aload_n 0 C rfl dX1_pour_58 rfl ?_
      refine g_get (C0 := RX1) (T := TX1) (N := 22) 0 1 0 (.int (1)) C hin rfl rfl (by decide) (by decide +kernel) rfl dX1_pour_59 ?_
      refine g_if_le 67 C dX1_pour_62 (by decide) (fun q => absurd q (by decide)) (fun _ => ?_)
      refine g_iconst 0 C dX1_pour_65 (by decide) ?_
      obtain rfl : K = 1 := hK.trans (by simp [tm_pour, b_6_1, b_14_2])
      exact g_iret C hr rfl dX1_pour_66 (Nat.zero_le _) (Nat.zero_le _) rfl rfl rfl
set_option maxRecDepth 100000 in
set_option maxHeartbeats 4000000 in
theorem c_m_scrape (l : Launch) (D : va_G) (cI cJ : ClassId) (h : Nat → Nat) (τ : gS) (np nt no ni : Nat) (hI : iM0 τ np nt no ni) (x : Int32) (K : Nat) (hK : K = tm_scrape no x) : MC l yX1_scrape wsX1_scrape 2 43 D (tyIJ cI cJ) [.ref (h 0), .int (x)] (wM cI h τ) (wM cI h (mS K τ (m_scrape τ (cl x)))) none (some (.int (mR K (potS (τ.2 4) (cl x) 12)))) 0 := by
  have hI0 := hI
  obtain ⟨⟨hnp, hnp6⟩, ⟨hnt, hnt12⟩, ⟨hno, hno10⟩, ⟨hni, hni8⟩, hPT, hLC, hHS⟩ := hI
  refine MC.ofG (cc := cX1_scrape) (maxL := 4) (ret := (some .int)) [(0, .ref (h 0)), (1, .int (x))] (by decide) rfl (Nat.le_of_ble_eq_true rfl) rfl ?_
  intro p e s m args below meth c C hr hout
  have hin : ∀ w ∈ wsX10, w ∈ wsX1_scrape := fun w h => by first | exact List.mem_cons_of_mem _ (List.mem_append_right _ h) | exact List.mem_cons_of_mem _ (List.mem_append_left _ (List.mem_append_right _ h)) | exact List.mem_cons_of_mem _ (List.mem_append_left _ (List.mem_append_left _ (List.mem_append_right _ h))) | exact List.mem_cons_of_mem _ (List.mem_append_left _ (List.mem_append_left _ (List.mem_append_left _ (List.mem_append_right _ h)))) | exact List.mem_cons_of_mem _ (List.mem_append_left _ (List.mem_append_left _ (List.mem_append_left _ (List.mem_append_left _ (List.mem_append_right _ h)))))
  refine g_aload_n 0 C rfl dX1_scrape_0 rfl ?_
  refine g_aload_n 0 C rfl dX1_scrape_1 rfl ?_
  refine g_iload_n 1 C rfl dX1_scrape_2 rfl ?_
  refine g_callV0 (C0 := RX1) (T := TX1) (N := 22) (ci := 1) (na := 1) (As := [.int (x)]) (c_m_isPot l D cI cJ h τ np nt no ni hI0 (x)) C gX1_scrape_X1_isPot rfl (by decide +kernel) rfl ⟨Nat.le_of_ble_eq_true rfl, Nat.le_of_ble_eq_true rfl⟩ rfl rfl rfl (Nat.le_of_ble_eq_true rfl) ⟨Nat.zero_le _, Nat.zero_le _⟩ rfl dX1_scrape_3 ?_
  refine g_if_eq 13 C dX1_scrape_6 (by decide) (fun c_6_1 => ?_) (fun c_6_1 => ?_)
  ·
    have b_6_1 : bad (x) (nI no) := Classical.byContradiction (bI_eq c_6_1)
    refine g_iconst 1 C dX1_scrape_13 (by decide) ?_
    refine g_put (C0 := RX1) (T := TX1) (N := 22) 0 1 0 (wM cI h (sS τ 0 (1))) C hin tyX1_ok nmX1 rfl rfl (by decide) (by decide +kernel) rfl (by decide +kernel) (Nat.le_of_ble_eq_true rfl) rfl dX1_scrape_14 ?_
    refine g_aload_n 0 C rfl dX1_scrape_17 rfl ?_
    refine g_get (C0 := RX1) (T := TX1) (N := 22) 0 1 0 (.int (1)) C hin rfl rfl (by decide) (by decide +kernel) rfl dX1_scrape_18 ?_
    refine g_if_le 26 C dX1_scrape_21 (by decide) (fun q => absurd q (by decide)) (fun _ => ?_)
    refine g_iconst 0 C dX1_scrape_24 (by decide) ?_
    obtain rfl : K = 1 := hK.trans (by simp [tm_scrape, b_6_1])
    exact g_iret C hr rfl dX1_scrape_25 (Nat.zero_le _) (Nat.zero_le _) rfl rfl rfl
  ·
    have b_6_1 : ¬ bad (x) (nI no) := bI_ne c_6_1
    refine g_iconst 0 C dX1_scrape_9 (by decide) ?_
    refine g_goto 14 C dX1_scrape_10 (by decide) ?_
    refine g_put (C0 := RX1) (T := TX1) (N := 22) 0 1 0 (wM cI h (sS τ 0 (0))) C hin tyX1_ok nmX1 rfl rfl (by decide) (by decide +kernel) rfl (by decide +kernel) (Nat.le_of_ble_eq_true rfl) rfl dX1_scrape_14 ?_
    refine g_aload_n 0 C rfl dX1_scrape_17 rfl ?_
    refine g_get (C0 := RX1) (T := TX1) (N := 22) 0 1 0 (.int (0)) C hin rfl rfl (by decide) (by decide +kernel) rfl dX1_scrape_18 ?_
    refine g_if_le 26 C dX1_scrape_21 (by decide) (fun _ => ?_) (fun q => absurd q (by decide))
    obtain ⟨x', hx', rfl⟩ := nb_of (N := no) rfl (by omega) b_6_1
    have kx' : cl (nI x') = x' := cl_nI (by omega)
    refine g_aload_n 0 C rfl dX1_scrape_26 rfl ?_
    refine g_iload_n 1 C rfl dX1_scrape_27 rfl ?_
    refine g_callV0 (C0 := RX1) (T := TX1) (N := 22) (ci := 1) (na := 1) (As := [.int (nI (x'))]) (c_m_gramsOf l D cI cJ h (sS τ 0 (0)) np nt no ni hI0 x' (by omega)) C gX1_scrape_X1_gramsOf rfl (by decide +kernel) rfl ⟨Nat.le_of_ble_eq_true rfl, Nat.le_of_ble_eq_true rfl⟩ rfl rfl rfl (Nat.le_of_ble_eq_true rfl) ⟨Nat.zero_le _, Nat.zero_le _⟩ rfl dX1_scrape_28 ?_
    refine g_istore_n [(2, .int (potS (τ.2 4) x' 12)), (0, .ref (h 0)), (1, .int (nI (x')))] C dX1_scrape_31 rfl (by decide) rfl ?_
    refine g_iconst 0 C dX1_scrape_32 (by decide) ?_
    refine g_istore_n [(3, .int (0)), (2, .int (potS (τ.2 4) x' 12)), (0, .ref (h 0)), (1, .int (nI (x')))] C dX1_scrape_33 rfl (by decide) rfl ?_
    have loop_34 : ∀ (fu : Nat) (i : Nat), i ≤ 12 → 13 ≤ i + fu → G p l e ({ frames := 2, cells := 0, slots := 6 * 0, locals := 43 } : Room) s m args below meth c D (va_A (wM cI h τ) s.heap.size) 4 0 0 (gQ below D (wM cI h τ) (wM cI h (mS K τ (m_scrape τ (cl (nI x'))))) none (some (.int (mR K (potS (τ.2 4) (cl (nI x')) 12)))) 0 args s) (wM cI h (sA (sA (sS τ 0 (0)) 3 (wstB (τ.2 3) (τ.2 4) (12 * x') i)) 4 (zerB (τ.2 4) (12 * x') i))) [(0, .ref (h 0)), (1, .int (nI (x'))), (2, .int (potS (τ.2 4) x' 12)), (3, .int (nI (i)))] 34 [] := by
      intro fu
      induction fu with
      | zero => intro i hi hf; exact absurd True.intro (by omega)
      | succ fu ih_34 =>
        intro i hi hf
        refine g_iload_n 3 C rfl dX1_scrape_34 rfl ?_
        refine g_bipush 12 C dX1_scrape_35 (by decide) ?_
        refine g_icmp_ge 78 C dX1_scrape_37 (by decide) (fun c_37_2 => ?_) (fun c_37_2 => ?_)
        ·
          have d_37_2 : 12 ≤ i := (nI_leI (a := 12) (b := i) (by omega) (by omega)).mp c_37_2
          obtain rfl : i = 12 := by omega
          refine g_iload_n 2 C rfl dX1_scrape_78 rfl ?_
          obtain rfl : K = 0 := hK.trans (by simp [tm_scrape, b_6_1, c_37_2, kx'])
          exact g_iret C hr rfl dX1_scrape_79 (Nat.zero_le _) (Nat.zero_le _) rfl (by rw [kx']; rfl) (by rw [kx']; rfl)
        ·
          have d_37_2 : ¬ 12 ≤ i := fun zz => c_37_2 ((nI_leI (a := 12) (b := i) (by omega) (by omega)).mpr zz)
          refine g_aload_n 0 C rfl dX1_scrape_40 rfl ?_
          refine g_get (C0 := RX1) (T := TX1) (N := 22) 0 1 6 (.ref (h 4)) C hin rfl rfl (by decide) (by decide +kernel) rfl dX1_scrape_41 ?_
          refine g_iload_n 3 C rfl dX1_scrape_44 rfl ?_
          refine g_dup2 C dX1_scrape_45 rfl rfl ?_
          refine g_ialdN (cA := cI) (n := 12) (a := h 4) (f := wstB (τ.2 3) (τ.2 4) (12 * x') i) i 4 0 C rfl rfl (by omega) (by decide) dX1_scrape_46 ?_
          refine g_aload_n 0 C rfl dX1_scrape_47 rfl ?_
          refine g_get (C0 := RX1) (T := TX1) (N := 22) 0 1 8 (.ref (h 5)) C hin rfl rfl (by decide) (by decide +kernel) rfl dX1_scrape_48 ?_
          refine g_bipush 12 C dX1_scrape_51 (by decide) ?_
          refine g_iload_n 1 C rfl dX1_scrape_53 rfl ?_
          refine g_imulN 12 x' C dX1_scrape_54 ?_
          refine g_iload_n 3 C rfl dX1_scrape_55 rfl ?_
          refine g_iaddN (12 * x') i C dX1_scrape_56 ?_
          refine g_ialdN (cA := cI) (n := 120) (a := h 5) (f := zerB (τ.2 4) (12 * x') i) ((12 * x') + i) 5 0 C rfl rfl (by omega) (by decide) dX1_scrape_57 ?_
          refine g_iadd C dX1_scrape_58 ?_
          refine g_iastN (cA := cI) (n := 12) (a := h 4) (f := wstB (τ.2 3) (τ.2 4) (12 * x') i) (x := (((wstB (τ.2 3) (τ.2 4) (12 * x') i) i) + ((zerB (τ.2 4) (12 * x') i) ((12 * x') + i)))) i 4 0 (wM cI h (sA (sA (sS τ 0 (0)) 3 (upd (wstB (τ.2 3) (τ.2 4) (12 * x') i) i ((((wstB (τ.2 3) (τ.2 4) (12 * x') i) i) + ((zerB (τ.2 4) (12 * x') i) ((12 * x') + i)))))) 4 (zerB (τ.2 4) (12 * x') i))) C rfl rfl (by omega) (by decide) rfl dX1_scrape_59 ?_
          refine g_aload_n 0 C rfl dX1_scrape_60 rfl ?_
          refine g_get (C0 := RX1) (T := TX1) (N := 22) 0 1 8 (.ref (h 5)) C hin rfl rfl (by decide) (by decide +kernel) rfl dX1_scrape_61 ?_
          refine g_bipush 12 C dX1_scrape_64 (by decide) ?_
          refine g_iload_n 1 C rfl dX1_scrape_66 rfl ?_
          refine g_imulN 12 x' C dX1_scrape_67 ?_
          refine g_iload_n 3 C rfl dX1_scrape_68 rfl ?_
          refine g_iaddN (12 * x') i C dX1_scrape_69 ?_
          refine g_iconst 0 C dX1_scrape_70 (by decide) ?_
          refine g_iastN (cA := cI) (n := 120) (a := h 5) (f := zerB (τ.2 4) (12 * x') i) (x := 0) ((12 * x') + i) 5 0 (wM cI h (sA (sA (sS τ 0 (0)) 3 (upd (wstB (τ.2 3) (τ.2 4) (12 * x') i) i ((((wstB (τ.2 3) (τ.2 4) (12 * x') i) i) + ((zerB (τ.2 4) (12 * x') i) ((12 * x') + i)))))) 4 (upd (zerB (τ.2 4) (12 * x') i) ((12 * x') + i) (0)))) C rfl rfl (by omega) (by decide) rfl dX1_scrape_71 ?_
          refine g_iincN 3 i 1 [(3, .int (nI (i + 1))), (0, .ref (h 0)), (1, .int (nI (x'))), (2, .int (potS (τ.2 4) x' 12))] C dX1_scrape_72 rfl (by decide) (by decide) rfl ?_
          refine g_goto 34 C dX1_scrape_75 (by decide) ?_
          refine g_lv [1, 2, 3, 0] [(0, .ref (h 0)), (1, .int (nI (x'))), (2, .int (potS (τ.2 4) x' 12)), (3, .int (nI (i + 1)))] rfl ?_
          exact ih_34 (i + 1) (by omega) (by omega)
    refine g_lv [2, 3, 1, 0] [(0, .ref (h 0)), (1, .int (nI (x'))), (2, .int (potS (τ.2 4) x' 12)), (3, .int (0))] rfl ?_
    exact loop_34 13 0 (by omega) (by omega)
set_option maxRecDepth 100000 in
set_option maxHeartbeats 4000000 in
theorem c_m_paint (l : Launch) (D : va_G) (cI cJ : ClassId) (h : Nat → Nat) (τ : gS) (np nt no ni : Nat) (hI : iM0 τ np nt no ni) (q x g : Int32) (K : Nat) (hK : K = tm_paint τ no ni q x g) : MC l yX1_paint wsX1_paint 2 49 D (tyIJ cI cJ) [.ref (h 0), .int (q), .int (x), .int (g)] (wM cI h τ) (wM cI h (mS K τ (m_paint τ (cl q) (cl x) g))) none (some (.int (mR K (nI (cl (τ.2 5 (cl q)) + 1))))) 0 := by
  have hI0 := hI
  obtain ⟨⟨hnp, hnp6⟩, ⟨hnt, hnt12⟩, ⟨hno, hno10⟩, ⟨hni, hni8⟩, hPT, hLC, hHS⟩ := hI
  refine MC.ofG (cc := cX1_paint) (maxL := 5) (ret := (some .int)) [(0, .ref (h 0)), (1, .int (q)), (2, .int (x)), (3, .int (g))] (by decide) rfl (Nat.le_of_ble_eq_true rfl) rfl ?_
  intro p e s m args below meth c C hr hout
  have hin : ∀ w ∈ wsX10, w ∈ wsX1_paint := fun w h => by first | exact List.mem_cons_of_mem _ (List.mem_append_right _ h) | exact List.mem_cons_of_mem _ (List.mem_append_left _ (List.mem_append_right _ h)) | exact List.mem_cons_of_mem _ (List.mem_append_left _ (List.mem_append_left _ (List.mem_append_right _ h))) | exact List.mem_cons_of_mem _ (List.mem_append_left _ (List.mem_append_left _ (List.mem_append_left _ (List.mem_append_right _ h)))) | exact List.mem_cons_of_mem _ (List.mem_append_left _ (List.mem_append_left _ (List.mem_append_left _ (List.mem_append_left _ (List.mem_append_right _ h)))))
  refine g_aload_n 0 C rfl dX1_paint_0 rfl ?_
  refine g_aload_n 0 C rfl dX1_paint_1 rfl ?_
  refine g_iload_n 1 C rfl dX1_paint_2 rfl ?_
  refine g_callV0 (C0 := RX1) (T := TX1) (N := 22) (ci := 1) (na := 1) (As := [.int (q)]) (c_m_isPicture l D cI cJ h τ np nt no ni hI0 (q)) C gX1_paint_X1_isPicture rfl (by decide +kernel) rfl ⟨Nat.le_of_ble_eq_true rfl, Nat.le_of_ble_eq_true rfl⟩ rfl rfl rfl (Nat.le_of_ble_eq_true rfl) ⟨Nat.zero_le _, Nat.zero_le _⟩ rfl dX1_paint_3 ?_
  refine g_if_eq 17 C dX1_paint_6 (by decide) (fun c_6_1 => ?_) (fun c_6_1 => ?_)
  ·
    have b_6_1 : bad (q) (nI ni) := Classical.byContradiction (bI_eq c_6_1)
    refine g_iconst 1 C dX1_paint_17 (by decide) ?_
    refine g_goto 71 C dX1_paint_18 (by decide) ?_
    refine g_put (C0 := RX1) (T := TX1) (N := 22) 0 1 0 (wM cI h (sS τ 0 (1))) C hin tyX1_ok nmX1 rfl rfl (by decide) (by decide +kernel) rfl (by decide +kernel) (Nat.le_of_ble_eq_true rfl) rfl dX1_paint_71 ?_
    refine g_aload_n 0 C rfl dX1_paint_74 rfl ?_
    refine g_get (C0 := RX1) (T := TX1) (N := 22) 0 1 0 (.int (1)) C hin rfl rfl (by decide) (by decide +kernel) rfl dX1_paint_75 ?_
    refine g_if_le 83 C dX1_paint_78 (by decide) (fun q => absurd q (by decide)) (fun _ => ?_)
    refine g_iconst 0 C dX1_paint_81 (by decide) ?_
    obtain rfl : K = 1 := hK.trans (by simp [tm_paint, b_6_1])
    exact g_iret C hr rfl dX1_paint_82 (Nat.zero_le _) (Nat.zero_le _) rfl rfl rfl
  ·
    have b_6_1 : ¬ bad (q) (nI ni) := bI_ne c_6_1
    refine g_aload_n 0 C rfl dX1_paint_9 rfl ?_
    refine g_iload_n 2 C rfl dX1_paint_10 rfl ?_
    refine g_callV0 (C0 := RX1) (T := TX1) (N := 22) (ci := 1) (na := 1) (As := [.int (x)]) (c_m_isPot l D cI cJ h τ np nt no ni hI0 (x)) C gX1_paint_X1_isPot rfl (by decide +kernel) rfl ⟨Nat.le_of_ble_eq_true rfl, Nat.le_of_ble_eq_true rfl⟩ rfl rfl rfl (Nat.le_of_ble_eq_true rfl) ⟨Nat.zero_le _, Nat.zero_le _⟩ rfl dX1_paint_11 ?_
    refine g_if_ne 21 C dX1_paint_14 (by decide) (fun c_14_2 => ?_) (fun c_14_2 => ?_)
    ·
      have b_14_2 : ¬ bad (x) (nI no) := bI_ne c_14_2
      refine g_iload_n 3 C rfl dX1_paint_21 rfl ?_
      refine g_iconst 1 C dX1_paint_22 (by decide) ?_
      refine g_sipush 1000 C dX1_paint_23 (by decide) ?_
      refine g_callS0 (na := 3) (av := [.int (g), .int (1), .int (1000)]) (c_m_in l D cI cJ _ (g) (1) (1000)) C gX1_paint_X1_in rfl (by decide +kernel) rfl ⟨Nat.le_of_ble_eq_true rfl, Nat.le_of_ble_eq_true rfl⟩ rfl (Nat.le_of_ble_eq_true rfl) ⟨Nat.zero_le _, Nat.zero_le _⟩ rfl dX1_paint_26 ?_
      refine g_if_ne 36 C dX1_paint_29 (by decide) (fun c_29_3 => ?_) (fun c_29_3 => ?_)
      ·
        have b_29_3 : ¬ out (g) (1) (1000) := bI_ne c_29_3
        obtain ⟨q', hq', rfl⟩ := nb_of (N := ni) rfl (by omega) b_6_1
        have kq' : cl (nI q') = q' := cl_nI (by omega)
        obtain ⟨x', hx', rfl⟩ := nb_of (N := no) rfl (by omega) b_14_2
        have kx' : cl (nI x') = x' := cl_nI (by omega)
        refine g_aload_n 0 C rfl dX1_paint_36 rfl ?_
        refine g_get (C0 := RX1) (T := TX1) (N := 22) 0 1 14 (.ref (h 10)) C hin rfl rfl (by decide) (by decide +kernel) rfl dX1_paint_37 ?_
        refine g_iload_n 1 C rfl dX1_paint_40 rfl ?_
        refine g_ialdN (cA := cI) (n := 8) (a := h 10) (f := τ.2 9) q' 10 0 C rfl rfl (by omega) (by decide) dX1_paint_41 ?_
        refine g_iconst (-1) C dX1_paint_42 (by decide) ?_
        refine g_icmp_ne 66 C dX1_paint_43 (by decide) (fun c_43_4 => ?_) (fun c_43_4 => ?_)
        ·
          refine g_iconst 3 C dX1_paint_66 (by decide) ?_
          refine g_goto 71 C dX1_paint_67 (by decide) ?_
          refine g_put (C0 := RX1) (T := TX1) (N := 22) 0 1 0 (wM cI h (sS τ 0 (3))) C hin tyX1_ok nmX1 rfl rfl (by decide) (by decide +kernel) rfl (by decide +kernel) (Nat.le_of_ble_eq_true rfl) rfl dX1_paint_71 ?_
          refine g_aload_n 0 C rfl dX1_paint_74 rfl ?_
          refine g_get (C0 := RX1) (T := TX1) (N := 22) 0 1 0 (.int (3)) C hin rfl rfl (by decide) (by decide +kernel) rfl dX1_paint_75 ?_
          refine g_if_le 83 C dX1_paint_78 (by decide) (fun q => absurd q (by decide)) (fun _ => ?_)
          refine g_iconst 0 C dX1_paint_81 (by decide) ?_
          obtain rfl : K = 3 := hK.trans (by simp [tm_paint, b_6_1, b_14_2, b_29_3, c_43_4, kq', kx'])
          exact g_iret C hr rfl dX1_paint_82 (Nat.zero_le _) (Nat.zero_le _) rfl rfl rfl
        ·
          refine g_aload_n 0 C rfl dX1_paint_46 rfl ?_
          refine g_get (C0 := RX1) (T := TX1) (N := 22) 0 1 10 (.ref (h 6)) C hin rfl rfl (by decide) (by decide +kernel) rfl dX1_paint_47 ?_
          refine g_iload_n 1 C rfl dX1_paint_50 rfl ?_
          refine g_ialdN (cA := cI) (n := 8) (a := h 6) (f := τ.2 5) q' 6 0 C rfl rfl (by omega) (by decide) dX1_paint_51 ?_
          obtain ⟨jL, hjL, ejL⟩ := hLC q'
          refine g_is (nI (jL)) ejL ?_
          refine g_bipush 12 C dX1_paint_52 (by decide) ?_
          refine g_icmp_eq 66 C dX1_paint_54 (by decide) (fun c_54_5 => ?_) (fun c_54_5 => ?_)
          ·
            have d_54_5 : jL = 12 := (nI_eq (a := jL) (b := 12) (by omega) (by omega)).mp c_54_5
            refine g_iconst 3 C dX1_paint_66 (by decide) ?_
            refine g_goto 71 C dX1_paint_67 (by decide) ?_
            refine g_put (C0 := RX1) (T := TX1) (N := 22) 0 1 0 (wM cI h (sS τ 0 (3))) C hin tyX1_ok nmX1 rfl rfl (by decide) (by decide +kernel) rfl (by decide +kernel) (Nat.le_of_ble_eq_true rfl) rfl dX1_paint_71 ?_
            refine g_aload_n 0 C rfl dX1_paint_74 rfl ?_
            refine g_get (C0 := RX1) (T := TX1) (N := 22) 0 1 0 (.int (3)) C hin rfl rfl (by decide) (by decide +kernel) rfl dX1_paint_75 ?_
            refine g_if_le 83 C dX1_paint_78 (by decide) (fun q => absurd q (by decide)) (fun _ => ?_)
            refine g_iconst 0 C dX1_paint_81 (by decide) ?_
            obtain rfl : K = 3 := hK.trans (by simp [tm_paint, b_6_1, b_14_2, b_29_3, c_43_4, c_54_5, kq', kx', ejL])
            exact g_iret C hr rfl dX1_paint_82 (Nat.zero_le _) (Nat.zero_le _) rfl rfl rfl
          ·
            have d_54_5 : ¬ jL = 12 := fun zz => c_54_5 ((nI_eq (a := jL) (b := 12) (by omega) (by omega)).mpr zz)
            refine g_aload_n 0 C rfl dX1_paint_57 rfl ?_
            refine g_iload_n 2 C rfl dX1_paint_58 rfl ?_
            refine g_callV0 (C0 := RX1) (T := TX1) (N := 22) (ci := 1) (na := 1) (As := [.int (nI (x'))]) (c_m_gramsOf l D cI cJ h τ np nt no ni hI0 x' (by omega)) C gX1_paint_X1_gramsOf rfl (by decide +kernel) rfl ⟨Nat.le_of_ble_eq_true rfl, Nat.le_of_ble_eq_true rfl⟩ rfl rfl rfl (Nat.le_of_ble_eq_true rfl) ⟨Nat.zero_le _, Nat.zero_le _⟩ rfl dX1_paint_59 ?_
            refine g_iload_n 3 C rfl dX1_paint_62 rfl ?_
            refine g_icmp_ge 70 C dX1_paint_63 (by decide) (fun c_63_6 => ?_) (fun c_63_6 => ?_)
            ·
              refine g_iconst 0 C dX1_paint_70 (by decide) ?_
              refine g_put (C0 := RX1) (T := TX1) (N := 22) 0 1 0 (wM cI h (sS τ 0 (0))) C hin tyX1_ok nmX1 rfl rfl (by decide) (by decide +kernel) rfl (by decide +kernel) (Nat.le_of_ble_eq_true rfl) rfl dX1_paint_71 ?_
              refine g_aload_n 0 C rfl dX1_paint_74 rfl ?_
              refine g_get (C0 := RX1) (T := TX1) (N := 22) 0 1 0 (.int (0)) C hin rfl rfl (by decide) (by decide +kernel) rfl dX1_paint_75 ?_
              refine g_if_le 83 C dX1_paint_78 (by decide) (fun _ => ?_) (fun q => absurd q (by decide))
              have hz : ¬ potS (τ.2 4) x' 12 = 0 := le_n0 (out_lo b_29_3) c_63_6
              refine g_aload_n 0 C rfl dX1_paint_83 rfl ?_
              refine g_iload_n 2 C rfl dX1_paint_84 rfl ?_
              refine g_iload_n 3 C rfl dX1_paint_85 rfl ?_
              refine g_callV0 (C0 := RX1) (T := TX1) (N := 22) (ci := 1) (na := 2) (As := [.int (nI (x')), .int (g)]) (c_m_flows l D cI cJ h (sS τ 0 (0)) np nt no ni hI0 x' (g) (by omega) hz) C gX1_paint_X1_flows rfl (by decide +kernel) rfl ⟨Nat.le_of_ble_eq_true rfl, Nat.le_of_ble_eq_true rfl⟩ rfl rfl rfl (Nat.le_of_ble_eq_true rfl) ⟨Nat.zero_le _, Nat.zero_le _⟩ rfl dX1_paint_86 ?_
              refine g_w (wM cI h (sA (sA (sS τ 0 (0)) 14 (flwF τ x' (g))) 4 (subF (τ.2 4) (flwF τ x' (g)) (12 * x') 12))) rfl ?_
              refine g_iconst 0 C dX1_paint_89 (by decide) ?_
              refine g_istore [(4, .int (0)), (0, .ref (h 0)), (1, .int (nI (q'))), (2, .int (nI (x'))), (3, .int (g))] C dX1_paint_90 (by decide) rfl ?_
              have loop_92 : ∀ (fu : Nat) (i : Nat), i ≤ 12 → 13 ≤ i + fu → G p l e ({ frames := 2, cells := 0, slots := 6 * 0, locals := 49 } : Room) s m args below meth c D (va_A (wM cI h τ) s.heap.size) 5 0 0 (gQ below D (wM cI h τ) (wM cI h (mS K τ (m_paint τ (cl (nI q')) (cl (nI x')) g))) none (some (.int (mR K (nI (cl (τ.2 5 (cl (nI q'))) + 1))))) 0 args s) (wM cI h (sA (sA (sA (sS τ 0 (0)) 14 (flwF τ x' (g))) 4 (subF (τ.2 4) (flwF τ x' (g)) (12 * x') 12)) 6 (setF (τ.2 6) (flwF τ x' (g)) (12 * (12 * q' + jL)) i))) [(0, .ref (h 0)), (1, .int (nI (q'))), (4, .int (nI (i)))] 92 [] := by
                intro fu
                induction fu with
                | zero => intro i hi hf; exact absurd True.intro (by omega)
                | succ fu ih_92 =>
                  intro i hi hf
                  refine g_iload 2 C rfl dX1_paint_92 ?_
                  refine g_bipush 12 C dX1_paint_94 (by decide) ?_
                  refine g_icmp_ge 130 C dX1_paint_96 (by decide) (fun c_96_7 => ?_) (fun c_96_7 => ?_)
                  ·
                    have d_96_7 : 12 ≤ i := (nI_leI (a := 12) (b := i) (by omega) (by omega)).mp c_96_7
                    obtain rfl : i = 12 := by omega
                    refine g_aload_n 0 C rfl dX1_paint_130 rfl ?_
                    refine g_get (C0 := RX1) (T := TX1) (N := 22) 0 1 10 (.ref (h 6)) C hin rfl rfl (by decide) (by decide +kernel) rfl dX1_paint_131 ?_
                    refine g_iload_n 1 C rfl dX1_paint_134 rfl ?_
                    refine g_dup2 C dX1_paint_135 rfl rfl ?_
                    refine g_ialdN (cA := cI) (n := 8) (a := h 6) (f := τ.2 5) q' 6 0 C rfl rfl (by omega) (by decide) dX1_paint_136 ?_
                    refine g_is (nI (jL)) ejL ?_
                    refine g_iconst 1 C dX1_paint_137 (by decide) ?_
                    refine g_iaddN jL 1 C dX1_paint_138 ?_
                    refine g_iastN (cA := cI) (n := 8) (a := h 6) (f := τ.2 5) (x := nI (jL + 1)) q' 6 0 (wM cI h (sA (sA (sA (sA (sS τ 0 (0)) 14 (flwF τ x' (g))) 4 (subF (τ.2 4) (flwF τ x' (g)) (12 * x') 12)) 6 (setF (τ.2 6) (flwF τ x' (g)) (12 * (12 * q' + jL)) 12)) 5 (upd (τ.2 5) q' (nI (jL + 1))))) C rfl rfl (by omega) (by decide) rfl dX1_paint_139 ?_
                    refine g_aload_n 0 C rfl dX1_paint_140 rfl ?_
                    refine g_get (C0 := RX1) (T := TX1) (N := 22) 0 1 10 (.ref (h 6)) C hin rfl rfl (by decide) (by decide +kernel) rfl dX1_paint_141 ?_
                    refine g_iload_n 1 C rfl dX1_paint_144 rfl ?_
                    refine g_ialdN (cA := cI) (n := 8) (a := h 6) (f := upd (τ.2 5) q' (nI (jL + 1))) q' 6 0 C rfl rfl (by omega) (by decide) dX1_paint_145 ?_
                    refine g_is (nI (jL + 1)) pk_us ?_
                    obtain rfl : K = 0 := hK.trans (by simp [tm_paint, b_6_1, b_14_2, b_29_3, c_43_4, c_54_5, c_63_6, c_96_7, kq', kx', ejL])
                    exact g_iret C hr rfl dX1_paint_146 (Nat.zero_le _) (Nat.zero_le _) rfl (by rw [kq', ejL, cl_nI (by omega)]; rfl) (by rw [kq', kx']; show _ = wM cI h (m_paint τ q' x' g); rw [m_paint, ejL, cl_nI (show jL < 2 ^ 31 by omega)])
                  ·
                    have d_96_7 : ¬ 12 ≤ i := fun zz => c_96_7 ((nI_leI (a := 12) (b := i) (by omega) (by omega)).mpr zz)
                    refine g_aload_n 0 C rfl dX1_paint_99 rfl ?_
                    refine g_get (C0 := RX1) (T := TX1) (N := 22) 0 1 11 (.ref (h 7)) C hin rfl rfl (by decide) (by decide +kernel) rfl dX1_paint_100 ?_
                    refine g_iload_n 1 C rfl dX1_paint_103 rfl ?_
                    refine g_aload_n 0 C rfl dX1_paint_104 rfl ?_
                    refine g_get (C0 := RX1) (T := TX1) (N := 22) 0 1 10 (.ref (h 6)) C hin rfl rfl (by decide) (by decide +kernel) rfl dX1_paint_105 ?_
                    refine g_iload_n 1 C rfl dX1_paint_108 rfl ?_
                    refine g_ialdN (cA := cI) (n := 8) (a := h 6) (f := τ.2 5) q' 6 0 C rfl rfl (by omega) (by decide) dX1_paint_109 ?_
                    refine g_is (nI (jL)) ejL ?_
                    refine g_callS0 (na := 2) (av := [.int (nI (q')), .int (nI (jL))]) (c_m_layerAt l D cI cJ _ q' jL) C gX1_paint_X1_layerAt rfl (by decide +kernel) rfl ⟨Nat.le_of_ble_eq_true rfl, Nat.le_of_ble_eq_true rfl⟩ rfl (Nat.le_of_ble_eq_true rfl) ⟨Nat.zero_le _, Nat.zero_le _⟩ rfl dX1_paint_110 ?_
                    refine g_iload 2 C rfl dX1_paint_113 ?_
                    refine g_iaddN (12 * (12 * q' + jL)) i C dX1_paint_115 ?_
                    refine g_aload_n 0 C rfl dX1_paint_116 rfl ?_
                    refine g_get (C0 := RX1) (T := TX1) (N := 22) 0 1 20 (.ref (h 15)) C hin rfl rfl (by decide) (by decide +kernel) rfl dX1_paint_117 ?_
                    refine g_iload 2 C rfl dX1_paint_120 ?_
                    refine g_ialdN (cA := cI) (n := 12) (a := h 15) (f := flwF τ x' (g)) i 15 0 C rfl rfl (by omega) (by decide) dX1_paint_122 ?_
                    refine g_iastN (cA := cI) (n := 1152) (a := h 7) (f := setF (τ.2 6) (flwF τ x' (g)) (12 * (12 * q' + jL)) i) (x := ((flwF τ x' (g)) i)) ((12 * (12 * q' + jL)) + i) 7 0 (wM cI h (sA (sA (sA (sS τ 0 (0)) 14 (flwF τ x' (g))) 4 (subF (τ.2 4) (flwF τ x' (g)) (12 * x') 12)) 6 (upd (setF (τ.2 6) (flwF τ x' (g)) (12 * (12 * q' + jL)) i) ((12 * (12 * q' + jL)) + i) (((flwF τ x' (g)) i))))) C rfl rfl (by omega) (by decide) rfl dX1_paint_123 ?_
                    refine g_iincN 2 i 1 [(4, .int (nI (i + 1))), (0, .ref (h 0)), (1, .int (nI (q')))] C dX1_paint_124 rfl (by decide) (by decide) rfl ?_
                    refine g_goto 92 C dX1_paint_127 (by decide) ?_
                    refine g_lv [1, 2, 0] [(0, .ref (h 0)), (1, .int (nI (q'))), (4, .int (nI (i + 1)))] rfl ?_
                    exact ih_92 (i + 1) (by omega) (by omega)
              refine g_lv [1, 2, 0] [(0, .ref (h 0)), (1, .int (nI (q'))), (4, .int (0))] rfl ?_
              exact loop_92 13 0 (by omega) (by omega)
            ·
              refine g_iconst 3 C dX1_paint_66 (by decide) ?_
              refine g_goto 71 C dX1_paint_67 (by decide) ?_
              refine g_put (C0 := RX1) (T := TX1) (N := 22) 0 1 0 (wM cI h (sS τ 0 (3))) C hin tyX1_ok nmX1 rfl rfl (by decide) (by decide +kernel) rfl (by decide +kernel) (Nat.le_of_ble_eq_true rfl) rfl dX1_paint_71 ?_
              refine g_aload_n 0 C rfl dX1_paint_74 rfl ?_
              refine g_get (C0 := RX1) (T := TX1) (N := 22) 0 1 0 (.int (3)) C hin rfl rfl (by decide) (by decide +kernel) rfl dX1_paint_75 ?_
              refine g_if_le 83 C dX1_paint_78 (by decide) (fun q => absurd q (by decide)) (fun _ => ?_)
              refine g_iconst 0 C dX1_paint_81 (by decide) ?_
              obtain rfl : K = 3 := hK.trans (by simp [tm_paint, b_6_1, b_14_2, b_29_3, c_43_4, c_54_5, c_63_6, kq', kx', ejL])
              exact g_iret C hr rfl dX1_paint_82 (Nat.zero_le _) (Nat.zero_le _) rfl rfl rfl
      ·
        have b_29_3 : out (g) (1) (1000) := Classical.byContradiction (bI_eq c_29_3)
        refine g_iconst 2 C dX1_paint_32 (by decide) ?_
        refine g_goto 71 C dX1_paint_33 (by decide) ?_
        refine g_put (C0 := RX1) (T := TX1) (N := 22) 0 1 0 (wM cI h (sS τ 0 (2))) C hin tyX1_ok nmX1 rfl rfl (by decide) (by decide +kernel) rfl (by decide +kernel) (Nat.le_of_ble_eq_true rfl) rfl dX1_paint_71 ?_
        refine g_aload_n 0 C rfl dX1_paint_74 rfl ?_
        refine g_get (C0 := RX1) (T := TX1) (N := 22) 0 1 0 (.int (2)) C hin rfl rfl (by decide) (by decide +kernel) rfl dX1_paint_75 ?_
        refine g_if_le 83 C dX1_paint_78 (by decide) (fun q => absurd q (by decide)) (fun _ => ?_)
        refine g_iconst 0 C dX1_paint_81 (by decide) ?_
        obtain rfl : K = 2 := hK.trans (by simp [tm_paint, b_6_1, b_14_2, b_29_3])
        exact g_iret C hr rfl dX1_paint_82 (Nat.zero_le _) (Nat.zero_le _) rfl rfl rfl
    ·
      have b_14_2 : bad (x) (nI no) := Classical.byContradiction (bI_eq c_14_2)
      refine g_iconst 1 C dX1_paint_17 (by decide) ?_
      refine g_goto 71 C dX1_paint_18 (by decide) ?_
      refine g_put (C0 := RX1) (T := TX1) (N := 22) 0 1 0 (wM cI h (sS τ 0 (1))) C hin tyX1_ok nmX1 rfl rfl (by decide) (by decide +kernel) rfl (by decide +kernel) (Nat.le_of_ble_eq_true rfl) rfl dX1_paint_71 ?_
      refine g_aload_n 0 C rfl dX1_paint_74 rfl ?_
      refine g_get (C0 := RX1) (T := TX1) (N := 22) 0 1 0 (.int (1)) C hin rfl rfl (by decide) (by decide +kernel) rfl dX1_paint_75 ?_
      refine g_if_le 83 C dX1_paint_78 (by decide) (fun q => absurd q (by decide)) (fun _ => ?_)
      refine g_iconst 0 C dX1_paint_81 (by decide) ?_
      obtain rfl : K = 1 := hK.trans (by simp [tm_paint, b_6_1, b_14_2])
      exact g_iret C hr rfl dX1_paint_82 (Nat.zero_le _) (Nat.zero_le _) rfl rfl rfl
set_option maxRecDepth 100000 in
set_option maxHeartbeats 4000000 in
theorem c_m_clean (l : Launch) (D : va_G) (cI cJ : ClassId) (h : Nat → Nat) (τ : gS) (np nt no ni : Nat) (hI : iM0 τ np nt no ni) (q n : Int32) (K : Nat) (hK : K = tm_clean τ ni q n) : MC l yX1_clean wsX1_clean 2 43 D (tyIJ cI cJ) [.ref (h 0), .int (q), .int (n)] (wM cI h τ) (wM cI h (mS K τ (m_clean τ (cl q) (cl n)))) none (some (.int (mR K ((clM (τ.2 3) (τ.2 6) (cl q) (cl (τ.2 5 (cl q))) (cl n)).2.2)))) 0 := by
  have hI0 := hI
  obtain ⟨⟨hnp, hnp6⟩, ⟨hnt, hnt12⟩, ⟨hno, hno10⟩, ⟨hni, hni8⟩, hPT, hLC, hHS⟩ := hI
  refine MC.ofG (cc := cX1_clean) (maxL := 7) (ret := (some .int)) [(0, .ref (h 0)), (1, .int (q)), (2, .int (n))] (by decide) rfl (Nat.le_of_ble_eq_true rfl) rfl ?_
  intro p e s m args below meth c C hr hout
  have hin : ∀ w ∈ wsX10, w ∈ wsX1_clean := fun w h => by first | exact List.mem_cons_of_mem _ (List.mem_append_right _ h) | exact List.mem_cons_of_mem _ (List.mem_append_left _ (List.mem_append_right _ h)) | exact List.mem_cons_of_mem _ (List.mem_append_left _ (List.mem_append_left _ (List.mem_append_right _ h))) | exact List.mem_cons_of_mem _ (List.mem_append_left _ (List.mem_append_left _ (List.mem_append_left _ (List.mem_append_right _ h)))) | exact List.mem_cons_of_mem _ (List.mem_append_left _ (List.mem_append_left _ (List.mem_append_left _ (List.mem_append_left _ (List.mem_append_right _ h)))))
  refine g_aload_n 0 C rfl dX1_clean_0 rfl ?_
  refine g_aload_n 0 C rfl dX1_clean_1 rfl ?_
  refine g_iload_n 1 C rfl dX1_clean_2 rfl ?_
  refine g_callV0 (C0 := RX1) (T := TX1) (N := 22) (ci := 1) (na := 1) (As := [.int (q)]) (c_m_isPicture l D cI cJ h τ np nt no ni hI0 (q)) C gX1_clean_X1_isPicture rfl (by decide +kernel) rfl ⟨Nat.le_of_ble_eq_true rfl, Nat.le_of_ble_eq_true rfl⟩ rfl rfl rfl (Nat.le_of_ble_eq_true rfl) ⟨Nat.zero_le _, Nat.zero_le _⟩ rfl dX1_clean_3 ?_
  refine g_if_ne 13 C dX1_clean_6 (by decide) (fun c_6_1 => ?_) (fun c_6_1 => ?_)
  ·
    have b_6_1 : ¬ bad (q) (nI ni) := bI_ne c_6_1
    refine g_iload_n 2 C rfl dX1_clean_13 rfl ?_
    refine g_iconst 1 C dX1_clean_14 (by decide) ?_
    refine g_bipush 12 C dX1_clean_15 (by decide) ?_
    refine g_callS0 (na := 3) (av := [.int (n), .int (1), .int (12)]) (c_m_in l D cI cJ _ (n) (1) (12)) C gX1_clean_X1_in rfl (by decide +kernel) rfl ⟨Nat.le_of_ble_eq_true rfl, Nat.le_of_ble_eq_true rfl⟩ rfl (Nat.le_of_ble_eq_true rfl) ⟨Nat.zero_le _, Nat.zero_le _⟩ rfl dX1_clean_17 ?_
    refine g_if_ne 27 C dX1_clean_20 (by decide) (fun c_20_2 => ?_) (fun c_20_2 => ?_)
    ·
      have b_20_2 : ¬ out (n) (1) (12) := bI_ne c_20_2
      obtain ⟨q', hq', rfl⟩ := nb_of (N := ni) rfl (by omega) b_6_1
      have kq' : cl (nI q') = q' := cl_nI (by omega)
      obtain ⟨n', hn', rfl⟩ := out_nat (M := 12) rfl (by decide) b_20_2
      have kn' : cl (nI n') = n' := cl_nI (by omega)
      refine g_aload_n 0 C rfl dX1_clean_27 rfl ?_
      refine g_get (C0 := RX1) (T := TX1) (N := 22) 0 1 14 (.ref (h 10)) C hin rfl rfl (by decide) (by decide +kernel) rfl dX1_clean_28 ?_
      refine g_iload_n 1 C rfl dX1_clean_31 rfl ?_
      refine g_ialdN (cA := cI) (n := 8) (a := h 10) (f := τ.2 9) q' 10 0 C rfl rfl (by omega) (by decide) dX1_clean_32 ?_
      refine g_iconst (-1) C dX1_clean_33 (by decide) ?_
      refine g_icmp_ne 47 C dX1_clean_34 (by decide) (fun c_34_3 => ?_) (fun c_34_3 => ?_)
      ·
        refine g_iconst 3 C dX1_clean_47 (by decide) ?_
        refine g_goto 52 C dX1_clean_48 (by decide) ?_
        refine g_put (C0 := RX1) (T := TX1) (N := 22) 0 1 0 (wM cI h (sS τ 0 (3))) C hin tyX1_ok nmX1 rfl rfl (by decide) (by decide +kernel) rfl (by decide +kernel) (Nat.le_of_ble_eq_true rfl) rfl dX1_clean_52 ?_
        refine g_aload_n 0 C rfl dX1_clean_55 rfl ?_
        refine g_get (C0 := RX1) (T := TX1) (N := 22) 0 1 0 (.int (3)) C hin rfl rfl (by decide) (by decide +kernel) rfl dX1_clean_56 ?_
        refine g_if_le 64 C dX1_clean_59 (by decide) (fun q => absurd q (by decide)) (fun _ => ?_)
        refine g_iconst 0 C dX1_clean_62 (by decide) ?_
        obtain rfl : K = 3 := hK.trans (by simp [tm_clean, b_6_1, b_20_2, c_34_3, kq', kn'])
        exact g_iret C hr rfl dX1_clean_63 (Nat.zero_le _) (Nat.zero_le _) rfl rfl rfl
      ·
        refine g_aload_n 0 C rfl dX1_clean_37 rfl ?_
        refine g_get (C0 := RX1) (T := TX1) (N := 22) 0 1 10 (.ref (h 6)) C hin rfl rfl (by decide) (by decide +kernel) rfl dX1_clean_38 ?_
        refine g_iload_n 1 C rfl dX1_clean_41 rfl ?_
        refine g_ialdN (cA := cI) (n := 8) (a := h 6) (f := τ.2 5) q' 6 0 C rfl rfl (by omega) (by decide) dX1_clean_42 ?_
        obtain ⟨jL, hjL, ejL⟩ := hLC q'
        refine g_is (nI (jL)) ejL ?_
        refine g_iload_n 2 C rfl dX1_clean_43 rfl ?_
        refine g_icmp_ge 51 C dX1_clean_44 (by decide) (fun c_44_4 => ?_) (fun c_44_4 => ?_)
        ·
          have d_44_4 : n' ≤ jL := (nI_leI (a := n') (b := jL) (by omega) (by omega)).mp c_44_4
          refine g_iconst 0 C dX1_clean_51 (by decide) ?_
          refine g_put (C0 := RX1) (T := TX1) (N := 22) 0 1 0 (wM cI h (sS τ 0 (0))) C hin tyX1_ok nmX1 rfl rfl (by decide) (by decide +kernel) rfl (by decide +kernel) (Nat.le_of_ble_eq_true rfl) rfl dX1_clean_52 ?_
          refine g_aload_n 0 C rfl dX1_clean_55 rfl ?_
          refine g_get (C0 := RX1) (T := TX1) (N := 22) 0 1 0 (.int (0)) C hin rfl rfl (by decide) (by decide +kernel) rfl dX1_clean_56 ?_
          refine g_if_le 64 C dX1_clean_59 (by decide) (fun _ => ?_) (fun q => absurd q (by decide))
          refine g_iconst 0 C dX1_clean_64 (by decide) ?_
          refine g_istore_n [(3, .int (0)), (0, .ref (h 0)), (1, .int (nI (q'))), (2, .int (nI (n')))] C dX1_clean_65 rfl (by decide) rfl ?_
          refine g_iconst 0 C dX1_clean_66 (by decide) ?_
          refine g_istore [(4, .int (0)), (3, .int (0)), (0, .ref (h 0)), (1, .int (nI (q'))), (2, .int (nI (n')))] C dX1_clean_67 (by decide) rfl ?_
          have loop_69 : ∀ (fu : Nat) (k : Nat), k ≤ n' → n' + 1 ≤ k + fu → G p l e ({ frames := 2, cells := 0, slots := 6 * 0, locals := 43 } : Room) s m args below meth c D (va_A (wM cI h τ) s.heap.size) 7 0 0 (gQ below D (wM cI h τ) (wM cI h (mS K τ (m_clean τ (cl (nI q')) (cl (nI n'))))) none (some (.int (mR K ((clM (τ.2 3) (τ.2 6) (cl (nI q')) (cl (τ.2 5 (cl (nI q')))) (cl (nI n'))).2.2)))) 0 args s) (wM cI h (sA (sA (sA (sS τ 0 (0)) 5 (upd (τ.2 5) q' (nI (jL - k)))) 3 ((clM (τ.2 3) (τ.2 6) q' jL k).1)) 6 ((clM (τ.2 3) (τ.2 6) q' jL k).2.1))) [(0, .ref (h 0)), (1, .int (nI (q'))), (2, .int (nI (n'))), (3, .int ((clM (τ.2 3) (τ.2 6) q' jL k).2.2)), (4, .int (nI (k)))] 69 [] := by
            intro fu
            induction fu with
            | zero => intro k hk hf; exact absurd True.intro (by omega)
            | succ fu ih_69 =>
              intro k hk hf
              refine g_iload 4 C rfl dX1_clean_69 ?_
              refine g_iload_n 2 C rfl dX1_clean_71 rfl ?_
              refine g_icmp_ge 163 C dX1_clean_72 (by decide) (fun c_72_5 => ?_) (fun c_72_5 => ?_)
              ·
                have d_72_5 : n' ≤ k := (nI_leI (a := n') (b := k) (by omega) (by omega)).mp c_72_5
                refine g_iload_n 3 C rfl dX1_clean_163 rfl ?_
                obtain rfl : K = 0 := hK.trans (by simp [tm_clean, b_6_1, b_20_2, c_34_3, c_44_4, c_72_5, kq', kn', ejL])
                exact g_iret C hr rfl dX1_clean_164 (Nat.zero_le _) (Nat.zero_le _) rfl (by rw [kq', kn', ejL, cl_nI (by omega), show n' = k by omega]; rfl) (by show _ = wM cI h (m_clean τ (cl (nI q')) (cl (nI n'))); rw [m_clean, kq', kn', ejL, cl_nI (by omega), show n' = k by omega])
              ·
                have d_72_5 : ¬ n' ≤ k := fun zz => c_72_5 ((nI_leI (a := n') (b := k) (by omega) (by omega)).mpr zz)
                refine g_aload_n 0 C rfl dX1_clean_75 rfl ?_
                refine g_get (C0 := RX1) (T := TX1) (N := 22) 0 1 10 (.ref (h 6)) C hin rfl rfl (by decide) (by decide +kernel) rfl dX1_clean_76 ?_
                refine g_iload_n 1 C rfl dX1_clean_79 rfl ?_
                refine g_dup2 C dX1_clean_80 rfl rfl ?_
                refine g_ialdN (cA := cI) (n := 8) (a := h 6) (f := upd (τ.2 5) q' (nI (jL - k))) q' 6 0 C rfl rfl (by omega) (by decide) dX1_clean_81 ?_
                refine g_is (nI (jL - k)) pk_us ?_
                refine g_iconst 1 C dX1_clean_82 (by decide) ?_
                refine g_isubN (jL - k) 1 C (by omega) dX1_clean_83 ?_
                refine g_iastN (cA := cI) (n := 8) (a := h 6) (f := upd (τ.2 5) q' (nI (jL - k))) (x := nI ((jL - k) - 1)) q' 6 0 (wM cI h (sA (sA (sA (sS τ 0 (0)) 5 (upd (upd (τ.2 5) q' (nI (jL - k))) q' (nI ((jL - k) - 1)))) 3 ((clM (τ.2 3) (τ.2 6) q' jL k).1)) 6 ((clM (τ.2 3) (τ.2 6) q' jL k).2.1))) C rfl rfl (by omega) (by decide) rfl dX1_clean_84 ?_
                refine g_w (wM cI h (sA (sA (sA (sS τ 0 (0)) 5 (upd (τ.2 5) q' (nI (jL - k - 1)))) 3 ((clM (τ.2 3) (τ.2 6) q' jL k).1)) 6 ((clM (τ.2 3) (τ.2 6) q' jL k).2.1))) (by rw [upd_two]) ?_
                refine g_iconst 0 C dX1_clean_85 (by decide) ?_
                refine g_istore [(5, .int (0)), (0, .ref (h 0)), (1, .int (nI (q'))), (2, .int (nI (n'))), (3, .int ((clM (τ.2 3) (τ.2 6) q' jL k).2.2)), (4, .int (nI (k)))] C dX1_clean_86 (by decide) rfl ?_
                have loop_88 : ∀ (fu : Nat) (t : Nat), t ≤ 12 → 13 ≤ t + fu → G p l e ({ frames := 2, cells := 0, slots := 6 * 0, locals := 43 } : Room) s m args below meth c D (va_A (wM cI h τ) s.heap.size) 7 0 0 (gQ below D (wM cI h τ) (wM cI h (mS K τ (m_clean τ (cl (nI q')) (cl (nI n'))))) none (some (.int (mR K ((clM (τ.2 3) (τ.2 6) (cl (nI q')) (cl (τ.2 5 (cl (nI q')))) (cl (nI n'))).2.2)))) 0 args s) (wM cI h (sA (sA (sA (sS τ 0 (0)) 5 (upd (τ.2 5) q' (nI (jL - k - 1)))) 3 (wstB (clM (τ.2 3) (τ.2 6) q' jL k).1 (clM (τ.2 3) (τ.2 6) q' jL k).2.1 (12 * (12 * q' + (jL - k - 1))) t)) 6 (zerB (clM (τ.2 3) (τ.2 6) q' jL k).2.1 (12 * (12 * q' + (jL - k - 1))) t))) [(0, .ref (h 0)), (1, .int (nI (q'))), (2, .int (nI (n'))), (3, .int (sumB (clM (τ.2 3) (τ.2 6) q' jL k).2.2 (clM (τ.2 3) (τ.2 6) q' jL k).2.1 (12 * (12 * q' + (jL - k - 1))) t)), (4, .int (nI (k))), (5, .int (nI (t)))] 88 [] := by
                  intro fu
                  induction fu with
                  | zero => intro t ht hf2; exact absurd True.intro (by omega)
                  | succ fu ih_88 =>
                    intro t ht hf2
                    refine g_iload 5 C rfl dX1_clean_88 ?_
                    refine g_bipush 12 C dX1_clean_90 (by decide) ?_
                    refine g_icmp_ge 157 C dX1_clean_92 (by decide) (fun c_92_6 => ?_) (fun c_92_6 => ?_)
                    ·
                      have d_92_6 : 12 ≤ t := (nI_leI (a := 12) (b := t) (by omega) (by omega)).mp c_92_6
                      obtain rfl : t = 12 := by omega
                      refine g_iincN 4 k 1 [(4, .int (nI (k + 1))), (0, .ref (h 0)), (1, .int (nI (q'))), (2, .int (nI (n'))), (3, .int (sumB (clM (τ.2 3) (τ.2 6) q' jL k).2.2 (clM (τ.2 3) (τ.2 6) q' jL k).2.1 (12 * (12 * q' + (jL - k - 1))) 12)), (5, .int (nI (12)))] C dX1_clean_157 rfl (by decide) (by decide) rfl ?_
                      refine g_goto 69 C dX1_clean_160 (by decide) ?_
                      refine g_lv [1, 2, 3, 4, 0] [(0, .ref (h 0)), (1, .int (nI (q'))), (2, .int (nI (n'))), (3, .int (sumB (clM (τ.2 3) (τ.2 6) q' jL k).2.2 (clM (τ.2 3) (τ.2 6) q' jL k).2.1 (12 * (12 * q' + (jL - k - 1))) 12)), (4, .int (nI (k + 1)))] rfl ?_
                      exact ih_69 (k + 1) (by omega) (by omega)
                    ·
                      have d_92_6 : ¬ 12 ≤ t := fun zz => c_92_6 ((nI_leI (a := 12) (b := t) (by omega) (by omega)).mpr zz)
                      refine g_aload_n 0 C rfl dX1_clean_95 rfl ?_
                      refine g_get (C0 := RX1) (T := TX1) (N := 22) 0 1 11 (.ref (h 7)) C hin rfl rfl (by decide) (by decide +kernel) rfl dX1_clean_96 ?_
                      refine g_iload_n 1 C rfl dX1_clean_99 rfl ?_
                      refine g_aload_n 0 C rfl dX1_clean_100 rfl ?_
                      refine g_get (C0 := RX1) (T := TX1) (N := 22) 0 1 10 (.ref (h 6)) C hin rfl rfl (by decide) (by decide +kernel) rfl dX1_clean_101 ?_
                      refine g_iload_n 1 C rfl dX1_clean_104 rfl ?_
                      refine g_ialdN (cA := cI) (n := 8) (a := h 6) (f := upd (τ.2 5) q' (nI (jL - k - 1))) q' 6 0 C rfl rfl (by omega) (by decide) dX1_clean_105 ?_
                      refine g_is (nI (jL - k - 1)) pk_us ?_
                      refine g_callS0 (na := 2) (av := [.int (nI (q')), .int (nI (jL - k - 1))]) (c_m_layerAt l D cI cJ _ q' (jL - k - 1)) C gX1_clean_X1_layerAt rfl (by decide +kernel) rfl ⟨Nat.le_of_ble_eq_true rfl, Nat.le_of_ble_eq_true rfl⟩ rfl (Nat.le_of_ble_eq_true rfl) ⟨Nat.zero_le _, Nat.zero_le _⟩ rfl dX1_clean_106 ?_
                      refine g_iload 5 C rfl dX1_clean_109 ?_
                      refine g_iaddN (12 * (12 * q' + (jL - k - 1))) t C dX1_clean_111 ?_
                      refine g_ialdN (cA := cI) (n := 1152) (a := h 7) (f := zerB (clM (τ.2 3) (τ.2 6) q' jL k).2.1 (12 * (12 * q' + (jL - k - 1))) t) ((12 * (12 * q' + (jL - k - 1))) + t) 7 0 C rfl rfl (by omega) (by decide) dX1_clean_112 ?_
                      refine g_istore [(6, .int ((zerB (clM (τ.2 3) (τ.2 6) q' jL k).2.1 (12 * (12 * q' + (jL - k - 1))) t) ((12 * (12 * q' + (jL - k - 1))) + t))), (0, .ref (h 0)), (1, .int (nI (q'))), (2, .int (nI (n'))), (3, .int (sumB (clM (τ.2 3) (τ.2 6) q' jL k).2.2 (clM (τ.2 3) (τ.2 6) q' jL k).2.1 (12 * (12 * q' + (jL - k - 1))) t)), (4, .int (nI (k))), (5, .int (nI (t)))] C dX1_clean_113 (by decide) rfl ?_
                      refine g_aload_n 1 C rfl dX1_clean_115 rfl ?_
                      refine g_get (C0 := RX1) (T := TX1) (N := 22) 0 1 6 (.ref (h 4)) C hin rfl rfl (by decide) (by decide +kernel) rfl dX1_clean_116 ?_
                      refine g_iload 6 C rfl dX1_clean_119 ?_
                      refine g_dup2 C dX1_clean_121 rfl rfl ?_
                      refine g_ialdN (cA := cI) (n := 12) (a := h 4) (f := wstB (clM (τ.2 3) (τ.2 6) q' jL k).1 (clM (τ.2 3) (τ.2 6) q' jL k).2.1 (12 * (12 * q' + (jL - k - 1))) t) t 4 0 C rfl rfl (by omega) (by decide) dX1_clean_122 ?_
                      refine g_iload 0 C rfl dX1_clean_123 ?_
                      refine g_iadd C dX1_clean_125 ?_
                      refine g_iastN (cA := cI) (n := 12) (a := h 4) (f := wstB (clM (τ.2 3) (τ.2 6) q' jL k).1 (clM (τ.2 3) (τ.2 6) q' jL k).2.1 (12 * (12 * q' + (jL - k - 1))) t) (x := (((wstB (clM (τ.2 3) (τ.2 6) q' jL k).1 (clM (τ.2 3) (τ.2 6) q' jL k).2.1 (12 * (12 * q' + (jL - k - 1))) t) t) + ((zerB (clM (τ.2 3) (τ.2 6) q' jL k).2.1 (12 * (12 * q' + (jL - k - 1))) t) ((12 * (12 * q' + (jL - k - 1))) + t)))) t 4 0 (wM cI h (sA (sA (sA (sS τ 0 (0)) 5 (upd (τ.2 5) q' (nI (jL - k - 1)))) 3 (upd (wstB (clM (τ.2 3) (τ.2 6) q' jL k).1 (clM (τ.2 3) (τ.2 6) q' jL k).2.1 (12 * (12 * q' + (jL - k - 1))) t) t ((((wstB (clM (τ.2 3) (τ.2 6) q' jL k).1 (clM (τ.2 3) (τ.2 6) q' jL k).2.1 (12 * (12 * q' + (jL - k - 1))) t) t) + ((zerB (clM (τ.2 3) (τ.2 6) q' jL k).2.1 (12 * (12 * q' + (jL - k - 1))) t) ((12 * (12 * q' + (jL - k - 1))) + t)))))) 6 (zerB (clM (τ.2 3) (τ.2 6) q' jL k).2.1 (12 * (12 * q' + (jL - k - 1))) t))) C rfl rfl (by omega) (by decide) rfl dX1_clean_126 ?_
                      refine g_iload_n 4 C rfl dX1_clean_127 rfl ?_
                      refine g_iload 0 C rfl dX1_clean_128 ?_
                      refine g_iadd C dX1_clean_130 ?_
                      refine g_istore_n [(3, .int ((sumB (clM (τ.2 3) (τ.2 6) q' jL k).2.2 (clM (τ.2 3) (τ.2 6) q' jL k).2.1 (12 * (12 * q' + (jL - k - 1))) t) + ((zerB (clM (τ.2 3) (τ.2 6) q' jL k).2.1 (12 * (12 * q' + (jL - k - 1))) t) ((12 * (12 * q' + (jL - k - 1))) + t)))), (6, .int ((zerB (clM (τ.2 3) (τ.2 6) q' jL k).2.1 (12 * (12 * q' + (jL - k - 1))) t) ((12 * (12 * q' + (jL - k - 1))) + t))), (0, .ref (h 0)), (1, .int (nI (q'))), (2, .int (nI (n'))), (4, .int (nI (k))), (5, .int (nI (t)))] C dX1_clean_131 rfl (by decide) rfl ?_
                      refine g_aload_n 2 C rfl dX1_clean_132 rfl ?_
                      refine g_get (C0 := RX1) (T := TX1) (N := 22) 0 1 11 (.ref (h 7)) C hin rfl rfl (by decide) (by decide +kernel) rfl dX1_clean_133 ?_
                      refine g_iload_n 3 C rfl dX1_clean_136 rfl ?_
                      refine g_aload_n 2 C rfl dX1_clean_137 rfl ?_
                      refine g_get (C0 := RX1) (T := TX1) (N := 22) 0 1 10 (.ref (h 6)) C hin rfl rfl (by decide) (by decide +kernel) rfl dX1_clean_138 ?_
                      refine g_iload_n 3 C rfl dX1_clean_141 rfl ?_
                      refine g_ialdN (cA := cI) (n := 8) (a := h 6) (f := upd (τ.2 5) q' (nI (jL - k - 1))) q' 6 0 C rfl rfl (by omega) (by decide) dX1_clean_142 ?_
                      refine g_is (nI (jL - k - 1)) pk_us ?_
                      refine g_callS0 (na := 2) (av := [.int (nI (q')), .int (nI (jL - k - 1))]) (c_m_layerAt l D cI cJ _ q' (jL - k - 1)) C gX1_clean_X1_layerAt rfl (by decide +kernel) rfl ⟨Nat.le_of_ble_eq_true rfl, Nat.le_of_ble_eq_true rfl⟩ rfl (Nat.le_of_ble_eq_true rfl) ⟨Nat.zero_le _, Nat.zero_le _⟩ rfl dX1_clean_143 ?_
                      refine g_iload 6 C rfl dX1_clean_146 ?_
                      refine g_iaddN (12 * (12 * q' + (jL - k - 1))) t C dX1_clean_148 ?_
                      refine g_iconst 0 C dX1_clean_149 (by decide) ?_
                      refine g_iastN (cA := cI) (n := 1152) (a := h 7) (f := zerB (clM (τ.2 3) (τ.2 6) q' jL k).2.1 (12 * (12 * q' + (jL - k - 1))) t) (x := 0) ((12 * (12 * q' + (jL - k - 1))) + t) 7 0 (wM cI h (sA (sA (sA (sS τ 0 (0)) 5 (upd (τ.2 5) q' (nI (jL - k - 1)))) 3 (upd (wstB (clM (τ.2 3) (τ.2 6) q' jL k).1 (clM (τ.2 3) (τ.2 6) q' jL k).2.1 (12 * (12 * q' + (jL - k - 1))) t) t ((((wstB (clM (τ.2 3) (τ.2 6) q' jL k).1 (clM (τ.2 3) (τ.2 6) q' jL k).2.1 (12 * (12 * q' + (jL - k - 1))) t) t) + ((zerB (clM (τ.2 3) (τ.2 6) q' jL k).2.1 (12 * (12 * q' + (jL - k - 1))) t) ((12 * (12 * q' + (jL - k - 1))) + t)))))) 6 (upd (zerB (clM (τ.2 3) (τ.2 6) q' jL k).2.1 (12 * (12 * q' + (jL - k - 1))) t) ((12 * (12 * q' + (jL - k - 1))) + t) (0)))) C rfl rfl (by omega) (by decide) rfl dX1_clean_150 ?_
                      refine g_iincN 6 t 1 [(5, .int (nI (t + 1))), (3, .int ((sumB (clM (τ.2 3) (τ.2 6) q' jL k).2.2 (clM (τ.2 3) (τ.2 6) q' jL k).2.1 (12 * (12 * q' + (jL - k - 1))) t) + ((zerB (clM (τ.2 3) (τ.2 6) q' jL k).2.1 (12 * (12 * q' + (jL - k - 1))) t) ((12 * (12 * q' + (jL - k - 1))) + t)))), (6, .int ((zerB (clM (τ.2 3) (τ.2 6) q' jL k).2.1 (12 * (12 * q' + (jL - k - 1))) t) ((12 * (12 * q' + (jL - k - 1))) + t))), (0, .ref (h 0)), (1, .int (nI (q'))), (2, .int (nI (n'))), (4, .int (nI (k)))] C dX1_clean_151 rfl (by decide) (by decide) rfl ?_
                      refine g_goto 88 C dX1_clean_154 (by decide) ?_
                      refine g_lv [3, 4, 5, 1, 6, 0] [(0, .ref (h 0)), (1, .int (nI (q'))), (2, .int (nI (n'))), (3, .int ((sumB (clM (τ.2 3) (τ.2 6) q' jL k).2.2 (clM (τ.2 3) (τ.2 6) q' jL k).2.1 (12 * (12 * q' + (jL - k - 1))) t) + ((zerB (clM (τ.2 3) (τ.2 6) q' jL k).2.1 (12 * (12 * q' + (jL - k - 1))) t) ((12 * (12 * q' + (jL - k - 1))) + t)))), (4, .int (nI (k))), (5, .int (nI (t + 1)))] rfl ?_
                      exact ih_88 (t + 1) (by omega) (by omega)
                refine g_lv [1, 2, 3, 4, 5, 0] [(0, .ref (h 0)), (1, .int (nI (q'))), (2, .int (nI (n'))), (3, .int ((clM (τ.2 3) (τ.2 6) q' jL k).2.2)), (4, .int (nI (k))), (5, .int (0))] rfl ?_
                exact loop_88 13 0 (by omega) (by omega)
          refine g_lv [2, 3, 4, 1, 0] [(0, .ref (h 0)), (1, .int (nI (q'))), (2, .int (nI (n'))), (3, .int (0)), (4, .int (0))] rfl ?_
          refine g_w (wM cI h (sA (sA (sA (sS τ 0 (0)) 5 (upd (τ.2 5) q' (nI (jL - 0)))) 3 ((clM (τ.2 3) (τ.2 6) q' jL 0).1)) 6 ((clM (τ.2 3) (τ.2 6) q' jL 0).2.1))) (by rw [show upd (τ.2 5) q' (nI (jL - 0)) = τ.2 5 from upd_id ejL]; rfl) ?_
          exact loop_69 (n' + 1) 0 (by omega) (by omega)
        ·
          have d_44_4 : ¬ n' ≤ jL := fun zz => c_44_4 ((nI_leI (a := n') (b := jL) (by omega) (by omega)).mpr zz)
          refine g_iconst 3 C dX1_clean_47 (by decide) ?_
          refine g_goto 52 C dX1_clean_48 (by decide) ?_
          refine g_put (C0 := RX1) (T := TX1) (N := 22) 0 1 0 (wM cI h (sS τ 0 (3))) C hin tyX1_ok nmX1 rfl rfl (by decide) (by decide +kernel) rfl (by decide +kernel) (Nat.le_of_ble_eq_true rfl) rfl dX1_clean_52 ?_
          refine g_aload_n 0 C rfl dX1_clean_55 rfl ?_
          refine g_get (C0 := RX1) (T := TX1) (N := 22) 0 1 0 (.int (3)) C hin rfl rfl (by decide) (by decide +kernel) rfl dX1_clean_56 ?_
          refine g_if_le 64 C dX1_clean_59 (by decide) (fun q => absurd q (by decide)) (fun _ => ?_)
          refine g_iconst 0 C dX1_clean_62 (by decide) ?_
          obtain rfl : K = 3 := hK.trans (by simp [tm_clean, b_6_1, b_20_2, c_34_3, c_44_4, kq', kn', ejL])
          exact g_iret C hr rfl dX1_clean_63 (Nat.zero_le _) (Nat.zero_le _) rfl rfl rfl
    ·
      have b_20_2 : out (n) (1) (12) := Classical.byContradiction (bI_eq c_20_2)
      refine g_iconst 2 C dX1_clean_23 (by decide) ?_
      refine g_goto 52 C dX1_clean_24 (by decide) ?_
      refine g_put (C0 := RX1) (T := TX1) (N := 22) 0 1 0 (wM cI h (sS τ 0 (2))) C hin tyX1_ok nmX1 rfl rfl (by decide) (by decide +kernel) rfl (by decide +kernel) (Nat.le_of_ble_eq_true rfl) rfl dX1_clean_52 ?_
      refine g_aload_n 0 C rfl dX1_clean_55 rfl ?_
      refine g_get (C0 := RX1) (T := TX1) (N := 22) 0 1 0 (.int (2)) C hin rfl rfl (by decide) (by decide +kernel) rfl dX1_clean_56 ?_
      refine g_if_le 64 C dX1_clean_59 (by decide) (fun q => absurd q (by decide)) (fun _ => ?_)
      refine g_iconst 0 C dX1_clean_62 (by decide) ?_
      obtain rfl : K = 2 := hK.trans (by simp [tm_clean, b_6_1, b_20_2])
      exact g_iret C hr rfl dX1_clean_63 (Nat.zero_le _) (Nat.zero_le _) rfl rfl rfl
  ·
    have b_6_1 : bad (q) (nI ni) := Classical.byContradiction (bI_eq c_6_1)
    refine g_iconst 1 C dX1_clean_9 (by decide) ?_
    refine g_goto 52 C dX1_clean_10 (by decide) ?_
    refine g_put (C0 := RX1) (T := TX1) (N := 22) 0 1 0 (wM cI h (sS τ 0 (1))) C hin tyX1_ok nmX1 rfl rfl (by decide) (by decide +kernel) rfl (by decide +kernel) (Nat.le_of_ble_eq_true rfl) rfl dX1_clean_52 ?_
    refine g_aload_n 0 C rfl dX1_clean_55 rfl ?_
    refine g_get (C0 := RX1) (T := TX1) (N := 22) 0 1 0 (.int (1)) C hin rfl rfl (by decide) (by decide +kernel) rfl dX1_clean_56 ?_
    refine g_if_le 64 C dX1_clean_59 (by decide) (fun q => absurd q (by decide)) (fun _ => ?_)
    refine g_iconst 0 C dX1_clean_62 (by decide) ?_
    obtain rfl : K = 1 := hK.trans (by simp [tm_clean, b_6_1])
    exact g_iret C hr rfl dX1_clean_63 (Nat.zero_le _) (Nat.zero_le _) rfl rfl rfl
set_option maxRecDepth 100000 in
set_option maxHeartbeats 4000000 in
theorem c_m_damp (l : Launch) (D : va_G) (cI cJ : ClassId) (h : Nat → Nat) (τ : gS) (np nt no ni : Nat) (hI : iM0 τ np nt no ni) (x d : Int32) (K : Nat) (hK : K = tm_damp x d) : MC l yX1_damp wsX1_damp 2 42 D (tyIJ cI cJ) [.ref (h 0), .int (x), .int (d)] (wM cI h τ) (wM cI h (mS K τ (sA (sS τ 0 0) 12 (upd (τ.2 12) (cl x) d)))) none (some (.int (mR K (τ.2 12 (cl x))))) 0 := by
  have hI0 := hI
  obtain ⟨⟨hnp, hnp6⟩, ⟨hnt, hnt12⟩, ⟨hno, hno10⟩, ⟨hni, hni8⟩, hPT, hLC, hHS⟩ := hI
  refine MC.ofG (cc := cX1_damp) (maxL := 4) (ret := (some .int)) [(0, .ref (h 0)), (1, .int (x)), (2, .int (d))] (by decide) rfl (Nat.le_of_ble_eq_true rfl) rfl ?_
  intro p e s m args below meth c C hr hout
  have hin : ∀ w ∈ wsX10, w ∈ wsX1_damp := fun w h => by first | exact List.mem_cons_of_mem _ (List.mem_append_right _ h) | exact List.mem_cons_of_mem _ (List.mem_append_left _ (List.mem_append_right _ h)) | exact List.mem_cons_of_mem _ (List.mem_append_left _ (List.mem_append_left _ (List.mem_append_right _ h))) | exact List.mem_cons_of_mem _ (List.mem_append_left _ (List.mem_append_left _ (List.mem_append_left _ (List.mem_append_right _ h)))) | exact List.mem_cons_of_mem _ (List.mem_append_left _ (List.mem_append_left _ (List.mem_append_left _ (List.mem_append_left _ (List.mem_append_right _ h)))))
  refine g_aload_n 0 C rfl dX1_damp_0 rfl ?_
  refine g_iload_n 1 C rfl dX1_damp_1 rfl ?_
  refine g_callS0 (na := 1) (av := [.int (x)]) (c_m_isHouse l D cI cJ _ (x)) C gX1_damp_X1_isHouse rfl (by decide +kernel) rfl ⟨Nat.le_of_ble_eq_true rfl, Nat.le_of_ble_eq_true rfl⟩ rfl (Nat.le_of_ble_eq_true rfl) ⟨Nat.zero_le _, Nat.zero_le _⟩ rfl dX1_damp_2 ?_
  refine g_if_ne 12 C dX1_damp_5 (by decide) (fun c_5_1 => ?_) (fun c_5_1 => ?_)
  ·
    have b_5_1 : ¬ bad (x) 4 := bI_ne c_5_1
    refine g_iload_n 2 C rfl dX1_damp_12 rfl ?_
    refine g_iconst 0 C dX1_damp_13 (by decide) ?_
    refine g_bipush 100 C dX1_damp_14 (by decide) ?_
    refine g_callS0 (na := 3) (av := [.int (d), .int (0), .int (100)]) (c_m_in l D cI cJ _ (d) (0) (100)) C gX1_damp_X1_in rfl (by decide +kernel) rfl ⟨Nat.le_of_ble_eq_true rfl, Nat.le_of_ble_eq_true rfl⟩ rfl (Nat.le_of_ble_eq_true rfl) ⟨Nat.zero_le _, Nat.zero_le _⟩ rfl dX1_damp_16 ?_
    refine g_if_ne 26 C dX1_damp_19 (by decide) (fun c_19_2 => ?_) (fun c_19_2 => ?_)
    ·
      have b_19_2 : ¬ out (d) (0) (100) := bI_ne c_19_2
      refine g_iconst 0 C dX1_damp_26 (by decide) ?_
      refine g_put (C0 := RX1) (T := TX1) (N := 22) 0 1 0 (wM cI h (sS τ 0 (0))) C hin tyX1_ok nmX1 rfl rfl (by decide) (by decide +kernel) rfl (by decide +kernel) (Nat.le_of_ble_eq_true rfl) rfl dX1_damp_27 ?_
      refine g_aload_n 0 C rfl dX1_damp_30 rfl ?_
      refine g_get (C0 := RX1) (T := TX1) (N := 22) 0 1 0 (.int (0)) C hin rfl rfl (by decide) (by decide +kernel) rfl dX1_damp_31 ?_
      refine g_if_le 39 C dX1_damp_34 (by decide) (fun _ => ?_) (fun q => absurd q (by decide))
      obtain ⟨x', hx', rfl⟩ := nb_of (N := 4) rfl (by omega) b_5_1
      have kx' : cl (nI x') = x' := cl_nI (by omega)
      refine g_aload_n 0 C rfl dX1_damp_39 rfl ?_
      refine g_get (C0 := RX1) (T := TX1) (N := 22) 0 1 17 (.ref (h 13)) C hin rfl rfl (by decide) (by decide +kernel) rfl dX1_damp_40 ?_
      refine g_iload_n 1 C rfl dX1_damp_43 rfl ?_
      refine g_ialdN (cA := cI) (n := 4) (a := h 13) (f := τ.2 12) x' 13 0 C rfl rfl (by omega) (by decide) dX1_damp_44 ?_
      refine g_istore_n [(3, .int (τ.2 12 x')), (0, .ref (h 0)), (1, .int (nI (x'))), (2, .int (d))] C dX1_damp_45 rfl (by decide) rfl ?_
      refine g_aload_n 1 C rfl dX1_damp_46 rfl ?_
      refine g_get (C0 := RX1) (T := TX1) (N := 22) 0 1 17 (.ref (h 13)) C hin rfl rfl (by decide) (by decide +kernel) rfl dX1_damp_47 ?_
      refine g_iload_n 2 C rfl dX1_damp_50 rfl ?_
      refine g_iload_n 3 C rfl dX1_damp_51 rfl ?_
      refine g_iastN (cA := cI) (n := 4) (a := h 13) (f := τ.2 12) (x := d) x' 13 0 (wM cI h (sA (sS τ 0 (0)) 12 (upd (τ.2 12) x' (d)))) C rfl rfl (by omega) (by decide) rfl dX1_damp_52 ?_
      refine g_iload_n 0 C rfl dX1_damp_53 rfl ?_
      obtain rfl : K = 0 := hK.trans (by simp [tm_damp, b_5_1, b_19_2, kx'])
      exact g_iret C hr rfl dX1_damp_54 (Nat.zero_le _) (Nat.zero_le _) rfl (by rw [kx']; rfl) (by rw [kx']; rfl)
    ·
      have b_19_2 : out (d) (0) (100) := Classical.byContradiction (bI_eq c_19_2)
      refine g_iconst 2 C dX1_damp_22 (by decide) ?_
      refine g_goto 27 C dX1_damp_23 (by decide) ?_
      refine g_put (C0 := RX1) (T := TX1) (N := 22) 0 1 0 (wM cI h (sS τ 0 (2))) C hin tyX1_ok nmX1 rfl rfl (by decide) (by decide +kernel) rfl (by decide +kernel) (Nat.le_of_ble_eq_true rfl) rfl dX1_damp_27 ?_
      refine g_aload_n 0 C rfl dX1_damp_30 rfl ?_
      refine g_get (C0 := RX1) (T := TX1) (N := 22) 0 1 0 (.int (2)) C hin rfl rfl (by decide) (by decide +kernel) rfl dX1_damp_31 ?_
      refine g_if_le 39 C dX1_damp_34 (by decide) (fun q => absurd q (by decide)) (fun _ => ?_)
      refine g_iconst 0 C dX1_damp_37 (by decide) ?_
      obtain rfl : K = 2 := hK.trans (by simp [tm_damp, b_5_1, b_19_2])
      exact g_iret C hr rfl dX1_damp_38 (Nat.zero_le _) (Nat.zero_le _) rfl rfl rfl
  ·
    have b_5_1 : bad (x) 4 := Classical.byContradiction (bI_eq c_5_1)
    refine g_iconst 1 C dX1_damp_8 (by decide) ?_
    refine g_goto 27 C dX1_damp_9 (by decide) ?_
    refine g_put (C0 := RX1) (T := TX1) (N := 22) 0 1 0 (wM cI h (sS τ 0 (1))) C hin tyX1_ok nmX1 rfl rfl (by decide) (by decide +kernel) rfl (by decide +kernel) (Nat.le_of_ble_eq_true rfl) rfl dX1_damp_27 ?_
    refine g_aload_n 0 C rfl dX1_damp_30 rfl ?_
    refine g_get (C0 := RX1) (T := TX1) (N := 22) 0 1 0 (.int (1)) C hin rfl rfl (by decide) (by decide +kernel) rfl dX1_damp_31 ?_
    refine g_if_le 39 C dX1_damp_34 (by decide) (fun q => absurd q (by decide)) (fun _ => ?_)
    refine g_iconst 0 C dX1_damp_37 (by decide) ?_
    obtain rfl : K = 1 := hK.trans (by simp [tm_damp, b_5_1])
    exact g_iret C hr rfl dX1_damp_38 (Nat.zero_le _) (Nat.zero_le _) rfl rfl rfl
set_option maxRecDepth 100000 in
set_option maxHeartbeats 4000000 in
theorem c_m_lend (l : Launch) (D : va_G) (cI cJ : ClassId) (h : Nat → Nat) (τ : gS) (np nt no ni : Nat) (hI : iM0 τ np nt no ni) (q x d : Int32) (K : Nat) (hK : K = tm_lend τ ni q x d) : MC l yX1_lend wsX1_lend 3 70 D (tyIJ cI cJ) [.ref (h 0), .int (q), .int (x), .int (d)] (wM cI h τ) (wM cI h (mS K τ (m_lend2 τ nt ni (cl q) x d))) none (some (.int (mR K (valM (ml0 τ (cl q) x d) nt ni (cl q) / 100 + 1)))) 0 := by
  have hI0 := hI
  obtain ⟨⟨hnp, hnp6⟩, ⟨hnt, hnt12⟩, ⟨hno, hno10⟩, ⟨hni, hni8⟩, hPT, hLC, hHS⟩ := hI
  refine MC.ofG (cc := cX1_lend) (maxL := 4) (ret := (some .int)) [(0, .ref (h 0)), (1, .int (q)), (2, .int (x)), (3, .int (d))] (by decide) rfl (Nat.le_of_ble_eq_true rfl) rfl ?_
  intro p e s m args below meth c C hr hout
  have hin : ∀ w ∈ wsX10, w ∈ wsX1_lend := fun w h => by first | exact List.mem_cons_of_mem _ (List.mem_append_right _ h) | exact List.mem_cons_of_mem _ (List.mem_append_left _ (List.mem_append_right _ h)) | exact List.mem_cons_of_mem _ (List.mem_append_left _ (List.mem_append_left _ (List.mem_append_right _ h))) | exact List.mem_cons_of_mem _ (List.mem_append_left _ (List.mem_append_left _ (List.mem_append_left _ (List.mem_append_right _ h)))) | exact List.mem_cons_of_mem _ (List.mem_append_left _ (List.mem_append_left _ (List.mem_append_left _ (List.mem_append_left _ (List.mem_append_right _ h)))))
  refine g_aload_n 0 C rfl dX1_lend_0 rfl ?_
  refine g_aload_n 0 C rfl dX1_lend_1 rfl ?_
  refine g_iload_n 1 C rfl dX1_lend_2 rfl ?_
  refine g_callV0 (C0 := RX1) (T := TX1) (N := 22) (ci := 1) (na := 1) (As := [.int (q)]) (c_m_isPicture l D cI cJ h τ np nt no ni hI0 (q)) C gX1_lend_X1_isPicture rfl (by decide +kernel) rfl ⟨Nat.le_of_ble_eq_true rfl, Nat.le_of_ble_eq_true rfl⟩ rfl rfl rfl (Nat.le_of_ble_eq_true rfl) ⟨Nat.zero_le _, Nat.zero_le _⟩ rfl dX1_lend_3 ?_
  refine g_if_eq 16 C dX1_lend_6 (by decide) (fun c_6_1 => ?_) (fun c_6_1 => ?_)
  ·
    have b_6_1 : bad (q) (nI ni) := Classical.byContradiction (bI_eq c_6_1)
    refine g_iconst 1 C dX1_lend_16 (by decide) ?_
    refine g_goto 60 C dX1_lend_17 (by decide) ?_
    refine g_put (C0 := RX1) (T := TX1) (N := 22) 0 1 0 (wM cI h (sS τ 0 (1))) C hin tyX1_ok nmX1 rfl rfl (by decide) (by decide +kernel) rfl (by decide +kernel) (Nat.le_of_ble_eq_true rfl) rfl dX1_lend_60 ?_
    refine g_aload_n 0 C rfl dX1_lend_63 rfl ?_
    refine g_get (C0 := RX1) (T := TX1) (N := 22) 0 1 0 (.int (1)) C hin rfl rfl (by decide) (by decide +kernel) rfl dX1_lend_64 ?_
    refine g_if_le 72 C dX1_lend_67 (by decide) (fun q => absurd q (by decide)) (fun _ => ?_)
    refine g_iconst 0 C dX1_lend_70 (by decide) ?_
    obtain rfl : K = 1 := hK.trans (by simp [tm_lend, b_6_1])
    exact g_iret C hr rfl dX1_lend_71 (Nat.zero_le _) (Nat.zero_le _) rfl rfl rfl
  ·
    have b_6_1 : ¬ bad (q) (nI ni) := bI_ne c_6_1
    refine g_iload_n 2 C rfl dX1_lend_9 rfl ?_
    refine g_callS0 (na := 1) (av := [.int (x)]) (c_m_isHouse l D cI cJ _ (x)) C gX1_lend_X1_isHouse rfl (by decide +kernel) rfl ⟨Nat.le_of_ble_eq_true rfl, Nat.le_of_ble_eq_true rfl⟩ rfl (Nat.le_of_ble_eq_true rfl) ⟨Nat.zero_le _, Nat.zero_le _⟩ rfl dX1_lend_10 ?_
    refine g_if_ne 20 C dX1_lend_13 (by decide) (fun c_13_2 => ?_) (fun c_13_2 => ?_)
    ·
      have b_13_2 : ¬ bad (x) 4 := bI_ne c_13_2
      refine g_iload_n 3 C rfl dX1_lend_20 rfl ?_
      refine g_iconst 1 C dX1_lend_21 (by decide) ?_
      refine g_bipush 100 C dX1_lend_22 (by decide) ?_
      refine g_callS0 (na := 3) (av := [.int (d), .int (1), .int (100)]) (c_m_in l D cI cJ _ (d) (1) (100)) C gX1_lend_X1_in rfl (by decide +kernel) rfl ⟨Nat.le_of_ble_eq_true rfl, Nat.le_of_ble_eq_true rfl⟩ rfl (Nat.le_of_ble_eq_true rfl) ⟨Nat.zero_le _, Nat.zero_le _⟩ rfl dX1_lend_24 ?_
      refine g_if_ne 34 C dX1_lend_27 (by decide) (fun c_27_3 => ?_) (fun c_27_3 => ?_)
      ·
        have b_27_3 : ¬ out (d) (1) (100) := bI_ne c_27_3
        obtain ⟨q', hq', rfl⟩ := nb_of (N := ni) rfl (by omega) b_6_1
        have kq' : cl (nI q') = q' := cl_nI (by omega)
        refine g_aload_n 0 C rfl dX1_lend_34 rfl ?_
        refine g_get (C0 := RX1) (T := TX1) (N := 22) 0 1 14 (.ref (h 10)) C hin rfl rfl (by decide) (by decide +kernel) rfl dX1_lend_35 ?_
        refine g_iload_n 1 C rfl dX1_lend_38 rfl ?_
        refine g_ialdN (cA := cI) (n := 8) (a := h 10) (f := τ.2 9) q' 10 0 C rfl rfl (by omega) (by decide) dX1_lend_39 ?_
        refine g_iconst (-1) C dX1_lend_40 (by decide) ?_
        refine g_icmp_ne 55 C dX1_lend_41 (by decide) (fun c_41_4 => ?_) (fun c_41_4 => ?_)
        ·
          refine g_iconst 3 C dX1_lend_55 (by decide) ?_
          refine g_goto 60 C dX1_lend_56 (by decide) ?_
          refine g_put (C0 := RX1) (T := TX1) (N := 22) 0 1 0 (wM cI h (sS τ 0 (3))) C hin tyX1_ok nmX1 rfl rfl (by decide) (by decide +kernel) rfl (by decide +kernel) (Nat.le_of_ble_eq_true rfl) rfl dX1_lend_60 ?_
          refine g_aload_n 0 C rfl dX1_lend_63 rfl ?_
          refine g_get (C0 := RX1) (T := TX1) (N := 22) 0 1 0 (.int (3)) C hin rfl rfl (by decide) (by decide +kernel) rfl dX1_lend_64 ?_
          refine g_if_le 72 C dX1_lend_67 (by decide) (fun q => absurd q (by decide)) (fun _ => ?_)
          refine g_iconst 0 C dX1_lend_70 (by decide) ?_
          obtain rfl : K = 3 := hK.trans (by simp [tm_lend, b_6_1, b_13_2, b_27_3, c_41_4, kq'])
          exact g_iret C hr rfl dX1_lend_71 (Nat.zero_le _) (Nat.zero_le _) rfl rfl rfl
        ·
          refine g_aload_n 0 C rfl dX1_lend_44 rfl ?_
          refine g_get (C0 := RX1) (T := TX1) (N := 22) 0 1 12 (.ref (h 8)) C hin rfl rfl (by decide) (by decide +kernel) rfl dX1_lend_45 ?_
          refine g_iload_n 1 C rfl dX1_lend_48 rfl ?_
          refine g_ialdN (cA := cI) (n := 8) (a := h 8) (f := τ.2 7) q' 8 0 C rfl rfl (by omega) (by decide) dX1_lend_49 ?_
          refine g_bipush 10 C dX1_lend_50 (by decide) ?_
          refine g_icmp_lt 59 C dX1_lend_52 (by decide) (fun c_52_5 => ?_) (fun c_52_5 => ?_)
          ·
            refine g_iconst 0 C dX1_lend_59 (by decide) ?_
            refine g_put (C0 := RX1) (T := TX1) (N := 22) 0 1 0 (wM cI h (sS τ 0 (0))) C hin tyX1_ok nmX1 rfl rfl (by decide) (by decide +kernel) rfl (by decide +kernel) (Nat.le_of_ble_eq_true rfl) rfl dX1_lend_60 ?_
            refine g_aload_n 0 C rfl dX1_lend_63 rfl ?_
            refine g_get (C0 := RX1) (T := TX1) (N := 22) 0 1 0 (.int (0)) C hin rfl rfl (by decide) (by decide +kernel) rfl dX1_lend_64 ?_
            refine g_if_le 72 C dX1_lend_67 (by decide) (fun _ => ?_) (fun q => absurd q (by decide))
            obtain ⟨x', hx', rfl⟩ := nb_of (N := 4) rfl (by omega) b_13_2
            have kx' : cl (nI x') = x' := cl_nI (by omega)
            refine g_aload_n 0 C rfl dX1_lend_72 rfl ?_
            refine g_get (C0 := RX1) (T := TX1) (N := 22) 0 1 14 (.ref (h 10)) C hin rfl rfl (by decide) (by decide +kernel) rfl dX1_lend_73 ?_
            refine g_iload_n 1 C rfl dX1_lend_76 rfl ?_
            refine g_iload_n 2 C rfl dX1_lend_77 rfl ?_
            refine g_iastN (cA := cI) (n := 8) (a := h 10) (f := τ.2 9) (x := nI (x')) q' 10 0 (wM cI h (sA (sS τ 0 (0)) 9 (upd (τ.2 9) q' (nI (x'))))) C rfl rfl (by omega) (by decide) rfl dX1_lend_78 ?_
            refine g_aload_n 0 C rfl dX1_lend_79 rfl ?_
            refine g_get (C0 := RX1) (T := TX1) (N := 22) 0 1 15 (.ref (h 11)) C hin rfl rfl (by decide) (by decide +kernel) rfl dX1_lend_80 ?_
            refine g_iload_n 1 C rfl dX1_lend_83 rfl ?_
            refine g_iload_n 3 C rfl dX1_lend_84 rfl ?_
            refine g_iastN (cA := cI) (n := 8) (a := h 11) (f := τ.2 10) (x := d) q' 11 0 (wM cI h (sA (sA (sS τ 0 (0)) 9 (upd (τ.2 9) q' (nI (x')))) 10 (upd (τ.2 10) q' (d)))) C rfl rfl (by omega) (by decide) rfl dX1_lend_85 ?_
            refine g_aload_n 0 C rfl dX1_lend_86 rfl ?_
            refine g_get (C0 := RX1) (T := TX1) (N := 22) 0 1 16 (.ref (h 12)) C hin rfl rfl (by decide) (by decide +kernel) rfl dX1_lend_87 ?_
            refine g_iload_n 1 C rfl dX1_lend_90 rfl ?_
            refine g_aload_n 0 C rfl dX1_lend_91 rfl ?_
            refine g_iload_n 1 C rfl dX1_lend_92 rfl ?_
            refine g_callV0 (C0 := RX1) (T := TX1) (N := 22) (ci := 1) (na := 1) (As := [.int (nI (q'))]) (c_m_value l D cI cJ h (sA (sA (sS τ 0 (0)) 9 (upd (τ.2 9) q' (nI (x')))) 10 (upd (τ.2 10) q' (d))) np nt no ni (iM0_lend hI0 q' (by omega) _) q' (by omega)) C gX1_lend_X1_value rfl (by decide +kernel) rfl ⟨Nat.le_of_ble_eq_true rfl, Nat.le_of_ble_eq_true rfl⟩ rfl rfl rfl (Nat.le_of_ble_eq_true rfl) ⟨Nat.zero_le _, Nat.zero_le _⟩ rfl dX1_lend_93 ?_
            refine g_w (wM cI h (sA (sA (sA (sS τ 0 (0)) 9 (upd (τ.2 9) q' (nI (x')))) 10 (upd (τ.2 10) q' (d))) 15 (valF (sA (sA (sS τ 0 (0)) 9 (upd (τ.2 9) q' (nI (x')))) 10 (upd (τ.2 10) q' (d))) nt ni q'))) rfl ?_
            refine g_bipush 100 C dX1_lend_96 (by decide) ?_
            refine g_idiv C (by decide) dX1_lend_98 ?_
            refine g_iconst 1 C dX1_lend_99 (by decide) ?_
            refine g_iadd C dX1_lend_100 ?_
            refine g_iastN (cA := cI) (n := 8) (a := h 12) (f := τ.2 11) (x := (((valM (sA (sA (sS τ 0 (0)) 9 (upd (τ.2 9) q' (nI (x')))) 10 (upd (τ.2 10) q' (d))) nt ni q') / 100) + 1)) q' 12 0 (wM cI h (sA (sA (sA (sA (sS τ 0 (0)) 9 (upd (τ.2 9) q' (nI (x')))) 10 (upd (τ.2 10) q' (d))) 15 (valF (sA (sA (sS τ 0 (0)) 9 (upd (τ.2 9) q' (nI (x')))) 10 (upd (τ.2 10) q' (d))) nt ni q')) 11 (upd (τ.2 11) q' ((((valM (sA (sA (sS τ 0 (0)) 9 (upd (τ.2 9) q' (nI (x')))) 10 (upd (τ.2 10) q' (d))) nt ni q') / 100) + 1))))) C rfl rfl (by omega) (by decide) rfl dX1_lend_101 ?_
            refine g_aload_n 0 C rfl dX1_lend_102 rfl ?_
            refine g_get (C0 := RX1) (T := TX1) (N := 22) 0 1 16 (.ref (h 12)) C hin rfl rfl (by decide) (by decide +kernel) rfl dX1_lend_103 ?_
            refine g_iload_n 1 C rfl dX1_lend_106 rfl ?_
            refine g_ialdN (cA := cI) (n := 8) (a := h 12) (f := upd (τ.2 11) q' ((((valM (sA (sA (sS τ 0 (0)) 9 (upd (τ.2 9) q' (nI (x')))) 10 (upd (τ.2 10) q' (d))) nt ni q') / 100) + 1))) q' 12 0 C rfl rfl (by omega) (by decide) dX1_lend_107 ?_
            refine g_is ((((valM (sA (sA (sS τ 0 (0)) 9 (upd (τ.2 9) q' (nI (x')))) 10 (upd (τ.2 10) q' (d))) nt ni q') / 100) + 1)) pk_us ?_
            obtain rfl : K = 0 := hK.trans (by simp [tm_lend, b_6_1, b_13_2, b_27_3, c_41_4, c_52_5, kq', kx'])
            exact g_iret C hr rfl dX1_lend_108 (Nat.zero_le _) (Nat.zero_le _) rfl (by rw [kq']; rfl) (by rw [kq']; rfl)
          ·
            refine g_iconst 3 C dX1_lend_55 (by decide) ?_
            refine g_goto 60 C dX1_lend_56 (by decide) ?_
            refine g_put (C0 := RX1) (T := TX1) (N := 22) 0 1 0 (wM cI h (sS τ 0 (3))) C hin tyX1_ok nmX1 rfl rfl (by decide) (by decide +kernel) rfl (by decide +kernel) (Nat.le_of_ble_eq_true rfl) rfl dX1_lend_60 ?_
            refine g_aload_n 0 C rfl dX1_lend_63 rfl ?_
            refine g_get (C0 := RX1) (T := TX1) (N := 22) 0 1 0 (.int (3)) C hin rfl rfl (by decide) (by decide +kernel) rfl dX1_lend_64 ?_
            refine g_if_le 72 C dX1_lend_67 (by decide) (fun q => absurd q (by decide)) (fun _ => ?_)
            refine g_iconst 0 C dX1_lend_70 (by decide) ?_
            obtain rfl : K = 3 := hK.trans (by simp [tm_lend, b_6_1, b_13_2, b_27_3, c_41_4, c_52_5, kq'])
            exact g_iret C hr rfl dX1_lend_71 (Nat.zero_le _) (Nat.zero_le _) rfl rfl rfl
      ·
        have b_27_3 : out (d) (1) (100) := Classical.byContradiction (bI_eq c_27_3)
        refine g_iconst 2 C dX1_lend_30 (by decide) ?_
        refine g_goto 60 C dX1_lend_31 (by decide) ?_
        refine g_put (C0 := RX1) (T := TX1) (N := 22) 0 1 0 (wM cI h (sS τ 0 (2))) C hin tyX1_ok nmX1 rfl rfl (by decide) (by decide +kernel) rfl (by decide +kernel) (Nat.le_of_ble_eq_true rfl) rfl dX1_lend_60 ?_
        refine g_aload_n 0 C rfl dX1_lend_63 rfl ?_
        refine g_get (C0 := RX1) (T := TX1) (N := 22) 0 1 0 (.int (2)) C hin rfl rfl (by decide) (by decide +kernel) rfl dX1_lend_64 ?_
        refine g_if_le 72 C dX1_lend_67 (by decide) (fun q => absurd q (by decide)) (fun _ => ?_)
        refine g_iconst 0 C dX1_lend_70 (by decide) ?_
        obtain rfl : K = 2 := hK.trans (by simp [tm_lend, b_6_1, b_13_2, b_27_3])
        exact g_iret C hr rfl dX1_lend_71 (Nat.zero_le _) (Nat.zero_le _) rfl rfl rfl
    ·
      have b_13_2 : bad (x) 4 := Classical.byContradiction (bI_eq c_13_2)
      refine g_iconst 1 C dX1_lend_16 (by decide) ?_
      refine g_goto 60 C dX1_lend_17 (by decide) ?_
      refine g_put (C0 := RX1) (T := TX1) (N := 22) 0 1 0 (wM cI h (sS τ 0 (1))) C hin tyX1_ok nmX1 rfl rfl (by decide) (by decide +kernel) rfl (by decide +kernel) (Nat.le_of_ble_eq_true rfl) rfl dX1_lend_60 ?_
      refine g_aload_n 0 C rfl dX1_lend_63 rfl ?_
      refine g_get (C0 := RX1) (T := TX1) (N := 22) 0 1 0 (.int (1)) C hin rfl rfl (by decide) (by decide +kernel) rfl dX1_lend_64 ?_
      refine g_if_le 72 C dX1_lend_67 (by decide) (fun q => absurd q (by decide)) (fun _ => ?_)
      refine g_iconst 0 C dX1_lend_70 (by decide) ?_
      obtain rfl : K = 1 := hK.trans (by simp [tm_lend, b_6_1, b_13_2])
      exact g_iret C hr rfl dX1_lend_71 (Nat.zero_le _) (Nat.zero_le _) rfl rfl rfl
set_option maxRecDepth 100000 in
set_option maxHeartbeats 4000000 in
theorem c_m_sell (l : Launch) (D : va_G) (cI cJ : ClassId) (h : Nat → Nat) (τ : gS) (np nt no ni : Nat) (hI : iM0 τ np nt no ni) (q x : Int32) (K : Nat) (hK : K = tm_sell τ ni q x) : MC l yX1_sell wsX1_sell 3 70 D (tyIJ cI cJ) [.ref (h 0), .int (q), .int (x)] (wM cI h τ) (wM cI h (mS K τ (m_sell2 τ nt ni (cl q) x))) none (some (.int (mR K (valM (m_sell0 τ (cl q) x) nt ni (cl q))))) 0 := by
  have hI0 := hI
  obtain ⟨⟨hnp, hnp6⟩, ⟨hnt, hnt12⟩, ⟨hno, hno10⟩, ⟨hni, hni8⟩, hPT, hLC, hHS⟩ := hI
  refine MC.ofG (cc := cX1_sell) (maxL := 3) (ret := (some .int)) [(0, .ref (h 0)), (1, .int (q)), (2, .int (x))] (by decide) rfl (Nat.le_of_ble_eq_true rfl) rfl ?_
  intro p e s m args below meth c C hr hout
  have hin : ∀ w ∈ wsX10, w ∈ wsX1_sell := fun w h => by first | exact List.mem_cons_of_mem _ (List.mem_append_right _ h) | exact List.mem_cons_of_mem _ (List.mem_append_left _ (List.mem_append_right _ h)) | exact List.mem_cons_of_mem _ (List.mem_append_left _ (List.mem_append_left _ (List.mem_append_right _ h))) | exact List.mem_cons_of_mem _ (List.mem_append_left _ (List.mem_append_left _ (List.mem_append_left _ (List.mem_append_right _ h)))) | exact List.mem_cons_of_mem _ (List.mem_append_left _ (List.mem_append_left _ (List.mem_append_left _ (List.mem_append_left _ (List.mem_append_right _ h)))))
  refine g_aload_n 0 C rfl dX1_sell_0 rfl ?_
  refine g_aload_n 0 C rfl dX1_sell_1 rfl ?_
  refine g_iload_n 1 C rfl dX1_sell_2 rfl ?_
  refine g_callV0 (C0 := RX1) (T := TX1) (N := 22) (ci := 1) (na := 1) (As := [.int (q)]) (c_m_isPicture l D cI cJ h τ np nt no ni hI0 (q)) C gX1_sell_X1_isPicture rfl (by decide +kernel) rfl ⟨Nat.le_of_ble_eq_true rfl, Nat.le_of_ble_eq_true rfl⟩ rfl rfl rfl (Nat.le_of_ble_eq_true rfl) ⟨Nat.zero_le _, Nat.zero_le _⟩ rfl dX1_sell_3 ?_
  refine g_if_ne 13 C dX1_sell_6 (by decide) (fun c_6_1 => ?_) (fun c_6_1 => ?_)
  ·
    have b_6_1 : ¬ bad (q) (nI ni) := bI_ne c_6_1
    refine g_iload_n 2 C rfl dX1_sell_13 rfl ?_
    refine g_iconst 1 C dX1_sell_14 (by decide) ?_
    refine g_ldc 100000 C (by decide +kernel) dX1_sell_15 ?_
    refine g_callS0 (na := 3) (av := [.int (x), .int (1), .int (100000)]) (c_m_in l D cI cJ _ (x) (1) (100000)) C gX1_sell_X1_in rfl (by decide +kernel) rfl ⟨Nat.le_of_ble_eq_true rfl, Nat.le_of_ble_eq_true rfl⟩ rfl (Nat.le_of_ble_eq_true rfl) ⟨Nat.zero_le _, Nat.zero_le _⟩ rfl dX1_sell_17 ?_
    refine g_if_ne 27 C dX1_sell_20 (by decide) (fun c_20_2 => ?_) (fun c_20_2 => ?_)
    ·
      have b_20_2 : ¬ out (x) (1) (100000) := bI_ne c_20_2
      obtain ⟨q', hq', rfl⟩ := nb_of (N := ni) rfl (by omega) b_6_1
      have kq' : cl (nI q') = q' := cl_nI (by omega)
      refine g_aload_n 0 C rfl dX1_sell_27 rfl ?_
      refine g_get (C0 := RX1) (T := TX1) (N := 22) 0 1 14 (.ref (h 10)) C hin rfl rfl (by decide) (by decide +kernel) rfl dX1_sell_28 ?_
      refine g_iload_n 1 C rfl dX1_sell_31 rfl ?_
      refine g_ialdN (cA := cI) (n := 8) (a := h 10) (f := τ.2 9) q' 10 0 C rfl rfl (by omega) (by decide) dX1_sell_32 ?_
      refine g_iconst (-1) C dX1_sell_33 (by decide) ?_
      refine g_icmp_ne 46 C dX1_sell_34 (by decide) (fun c_34_3 => ?_) (fun c_34_3 => ?_)
      ·
        refine g_iconst 3 C dX1_sell_46 (by decide) ?_
        refine g_goto 51 C dX1_sell_47 (by decide) ?_
        refine g_put (C0 := RX1) (T := TX1) (N := 22) 0 1 0 (wM cI h (sS τ 0 (3))) C hin tyX1_ok nmX1 rfl rfl (by decide) (by decide +kernel) rfl (by decide +kernel) (Nat.le_of_ble_eq_true rfl) rfl dX1_sell_51 ?_
        refine g_aload_n 0 C rfl dX1_sell_54 rfl ?_
        refine g_get (C0 := RX1) (T := TX1) (N := 22) 0 1 0 (.int (3)) C hin rfl rfl (by decide) (by decide +kernel) rfl dX1_sell_55 ?_
        refine g_if_le 63 C dX1_sell_58 (by decide) (fun q => absurd q (by decide)) (fun _ => ?_)
        refine g_iconst 0 C dX1_sell_61 (by decide) ?_
        obtain rfl : K = 3 := hK.trans (by simp [tm_sell, b_6_1, b_20_2, c_34_3, kq'])
        exact g_iret C hr rfl dX1_sell_62 (Nat.zero_le _) (Nat.zero_le _) rfl rfl rfl
      ·
        refine g_aload_n 0 C rfl dX1_sell_37 rfl ?_
        refine g_get (C0 := RX1) (T := TX1) (N := 22) 0 1 10 (.ref (h 6)) C hin rfl rfl (by decide) (by decide +kernel) rfl dX1_sell_38 ?_
        refine g_iload_n 1 C rfl dX1_sell_41 rfl ?_
        refine g_ialdN (cA := cI) (n := 8) (a := h 6) (f := τ.2 5) q' 6 0 C rfl rfl (by omega) (by decide) dX1_sell_42 ?_
        refine g_if_ne 50 C dX1_sell_43 (by decide) (fun c_43_4 => ?_) (fun c_43_4 => ?_)
        ·
          refine g_iconst 0 C dX1_sell_50 (by decide) ?_
          refine g_put (C0 := RX1) (T := TX1) (N := 22) 0 1 0 (wM cI h (sS τ 0 (0))) C hin tyX1_ok nmX1 rfl rfl (by decide) (by decide +kernel) rfl (by decide +kernel) (Nat.le_of_ble_eq_true rfl) rfl dX1_sell_51 ?_
          refine g_aload_n 0 C rfl dX1_sell_54 rfl ?_
          refine g_get (C0 := RX1) (T := TX1) (N := 22) 0 1 0 (.int (0)) C hin rfl rfl (by decide) (by decide +kernel) rfl dX1_sell_55 ?_
          refine g_if_le 63 C dX1_sell_58 (by decide) (fun _ => ?_) (fun q => absurd q (by decide))
          refine g_aload_n 0 C rfl dX1_sell_63 rfl ?_
          refine g_get (C0 := RX1) (T := TX1) (N := 22) 0 1 13 (.ref (h 9)) C hin rfl rfl (by decide) (by decide +kernel) rfl dX1_sell_64 ?_
          refine g_iload_n 1 C rfl dX1_sell_67 rfl ?_
          refine g_iload_n 2 C rfl dX1_sell_68 rfl ?_
          refine g_iastN (cA := cI) (n := 8) (a := h 9) (f := τ.2 8) (x := x) q' 9 0 (wM cI h (sA (sS τ 0 (0)) 8 (upd (τ.2 8) q' (x)))) C rfl rfl (by omega) (by decide) rfl dX1_sell_69 ?_
          refine g_aload_n 0 C rfl dX1_sell_70 rfl ?_
          refine g_iload_n 1 C rfl dX1_sell_71 rfl ?_
          refine g_callV0 (C0 := RX1) (T := TX1) (N := 22) (ci := 1) (na := 1) (As := [.int (nI (q'))]) (c_m_value l D cI cJ h (sA (sS τ 0 (0)) 8 (upd (τ.2 8) q' (x))) np nt no ni hI0 q' (by omega)) C gX1_sell_X1_value rfl (by decide +kernel) rfl ⟨Nat.le_of_ble_eq_true rfl, Nat.le_of_ble_eq_true rfl⟩ rfl rfl rfl (Nat.le_of_ble_eq_true rfl) ⟨Nat.zero_le _, Nat.zero_le _⟩ rfl dX1_sell_72 ?_
          refine g_w (wM cI h (sA (sA (sS τ 0 (0)) 8 (upd (τ.2 8) q' (x))) 15 (valF (sA (sS τ 0 (0)) 8 (upd (τ.2 8) q' (x))) nt ni q'))) rfl ?_
          obtain rfl : K = 0 := hK.trans (by simp [tm_sell, b_6_1, b_20_2, c_34_3, c_43_4, kq'])
          exact g_iret C hr rfl dX1_sell_75 (Nat.zero_le _) (Nat.zero_le _) rfl (by rw [kq']; rfl) (by rw [kq']; rfl)
        ·
          refine g_iconst 3 C dX1_sell_46 (by decide) ?_
          refine g_goto 51 C dX1_sell_47 (by decide) ?_
          refine g_put (C0 := RX1) (T := TX1) (N := 22) 0 1 0 (wM cI h (sS τ 0 (3))) C hin tyX1_ok nmX1 rfl rfl (by decide) (by decide +kernel) rfl (by decide +kernel) (Nat.le_of_ble_eq_true rfl) rfl dX1_sell_51 ?_
          refine g_aload_n 0 C rfl dX1_sell_54 rfl ?_
          refine g_get (C0 := RX1) (T := TX1) (N := 22) 0 1 0 (.int (3)) C hin rfl rfl (by decide) (by decide +kernel) rfl dX1_sell_55 ?_
          refine g_if_le 63 C dX1_sell_58 (by decide) (fun q => absurd q (by decide)) (fun _ => ?_)
          refine g_iconst 0 C dX1_sell_61 (by decide) ?_
          obtain rfl : K = 3 := hK.trans (by simp [tm_sell, b_6_1, b_20_2, c_34_3, c_43_4, kq'])
          exact g_iret C hr rfl dX1_sell_62 (Nat.zero_le _) (Nat.zero_le _) rfl rfl rfl
    ·
      have b_20_2 : out (x) (1) (100000) := Classical.byContradiction (bI_eq c_20_2)
      refine g_iconst 2 C dX1_sell_23 (by decide) ?_
      refine g_goto 51 C dX1_sell_24 (by decide) ?_
      refine g_put (C0 := RX1) (T := TX1) (N := 22) 0 1 0 (wM cI h (sS τ 0 (2))) C hin tyX1_ok nmX1 rfl rfl (by decide) (by decide +kernel) rfl (by decide +kernel) (Nat.le_of_ble_eq_true rfl) rfl dX1_sell_51 ?_
      refine g_aload_n 0 C rfl dX1_sell_54 rfl ?_
      refine g_get (C0 := RX1) (T := TX1) (N := 22) 0 1 0 (.int (2)) C hin rfl rfl (by decide) (by decide +kernel) rfl dX1_sell_55 ?_
      refine g_if_le 63 C dX1_sell_58 (by decide) (fun q => absurd q (by decide)) (fun _ => ?_)
      refine g_iconst 0 C dX1_sell_61 (by decide) ?_
      obtain rfl : K = 2 := hK.trans (by simp [tm_sell, b_6_1, b_20_2])
      exact g_iret C hr rfl dX1_sell_62 (Nat.zero_le _) (Nat.zero_le _) rfl rfl rfl
  ·
    have b_6_1 : bad (q) (nI ni) := Classical.byContradiction (bI_eq c_6_1)
    refine g_iconst 1 C dX1_sell_9 (by decide) ?_
    refine g_goto 51 C dX1_sell_10 (by decide) ?_
    refine g_put (C0 := RX1) (T := TX1) (N := 22) 0 1 0 (wM cI h (sS τ 0 (1))) C hin tyX1_ok nmX1 rfl rfl (by decide) (by decide +kernel) rfl (by decide +kernel) (Nat.le_of_ble_eq_true rfl) rfl dX1_sell_51 ?_
    refine g_aload_n 0 C rfl dX1_sell_54 rfl ?_
    refine g_get (C0 := RX1) (T := TX1) (N := 22) 0 1 0 (.int (1)) C hin rfl rfl (by decide) (by decide +kernel) rfl dX1_sell_55 ?_
    refine g_if_le 63 C dX1_sell_58 (by decide) (fun q => absurd q (by decide)) (fun _ => ?_)
    refine g_iconst 0 C dX1_sell_61 (by decide) ?_
    obtain rfl : K = 1 := hK.trans (by simp [tm_sell, b_6_1])
    exact g_iret C hr rfl dX1_sell_62 (Nat.zero_le _) (Nat.zero_le _) rfl rfl rfl
set_option maxRecDepth 100000 in
set_option maxHeartbeats 4000000 in
theorem c_m_pass (l : Launch) (D : va_G) (cI cJ : ClassId) (h : Nat → Nat) (τ : gS) (np nt no ni : Nat) (hI : iM0 τ np nt no ni) (d : Int32) (K : Nat) (hK : K = tm_pass τ d) : MC l yX1_pass wsX1_pass 2 44 D (tyIJ cI cJ) [.ref (h 0), .int (d)] (wM cI h τ) (wM cI h (mS K τ (pN (sS τ 0 0) ni (cl d)))) none (some (.int (mR K ((pN (sS τ 0 0) ni (cl d)).1 5)))) 0 := by
  have hI0 := hI
  obtain ⟨⟨hnp, hnp6⟩, ⟨hnt, hnt12⟩, ⟨hno, hno10⟩, ⟨hni, hni8⟩, hPT, hLC, hHS⟩ := hI
  refine MC.ofG (cc := cX1_pass) (maxL := 3) (ret := (some .int)) [(0, .ref (h 0)), (1, .int (d))] (by decide) rfl (Nat.le_of_ble_eq_true rfl) rfl ?_
  intro p e s m args below meth c C hr hout
  have hin : ∀ w ∈ wsX10, w ∈ wsX1_pass := fun w h => by first | exact List.mem_cons_of_mem _ (List.mem_append_right _ h) | exact List.mem_cons_of_mem _ (List.mem_append_left _ (List.mem_append_right _ h)) | exact List.mem_cons_of_mem _ (List.mem_append_left _ (List.mem_append_left _ (List.mem_append_right _ h))) | exact List.mem_cons_of_mem _ (List.mem_append_left _ (List.mem_append_left _ (List.mem_append_left _ (List.mem_append_right _ h)))) | exact List.mem_cons_of_mem _ (List.mem_append_left _ (List.mem_append_left _ (List.mem_append_left _ (List.mem_append_left _ (List.mem_append_right _ h)))))
  refine g_aload_n 0 C rfl dX1_pass_0 rfl ?_
  refine g_iload_n 1 C rfl dX1_pass_1 rfl ?_
  refine g_iconst 1 C dX1_pass_2 (by decide) ?_
  refine g_bipush 100 C dX1_pass_3 (by decide) ?_
  refine g_callS0 (na := 3) (av := [.int (d), .int (1), .int (100)]) (c_m_in l D cI cJ _ (d) (1) (100)) C gX1_pass_X1_in rfl (by decide +kernel) rfl ⟨Nat.le_of_ble_eq_true rfl, Nat.le_of_ble_eq_true rfl⟩ rfl (Nat.le_of_ble_eq_true rfl) ⟨Nat.zero_le _, Nat.zero_le _⟩ rfl dX1_pass_5 ?_
  refine g_if_ne 15 C dX1_pass_8 (by decide) (fun c_8_1 => ?_) (fun c_8_1 => ?_)
  ·
    have b_8_1 : ¬ out (d) (1) (100) := bI_ne c_8_1
    obtain ⟨d', hd', rfl⟩ := out_nat (M := 100) rfl (by decide) b_8_1
    have kd' : cl (nI d') = d' := cl_nI (by omega)
    refine g_aload_n 0 C rfl dX1_pass_15 rfl ?_
    refine g_get (C0 := RX1) (T := TX1) (N := 22) 0 1 19 (.int (τ.1 5)) C hin rfl rfl (by decide) (by decide +kernel) rfl dX1_pass_16 ?_
    refine g_iload_n 1 C rfl dX1_pass_19 rfl ?_
    refine g_iadd C dX1_pass_20 ?_
    refine g_sipush 5000 C dX1_pass_21 (by decide) ?_
    refine g_icmp_le 31 C dX1_pass_24 (by decide) (fun c_24_2 => ?_) (fun c_24_2 => ?_)
    ·
      refine g_iconst 0 C dX1_pass_31 (by decide) ?_
      refine g_put (C0 := RX1) (T := TX1) (N := 22) 0 1 0 (wM cI h (sS τ 0 (0))) C hin tyX1_ok nmX1 rfl rfl (by decide) (by decide +kernel) rfl (by decide +kernel) (Nat.le_of_ble_eq_true rfl) rfl dX1_pass_32 ?_
      refine g_aload_n 0 C rfl dX1_pass_35 rfl ?_
      refine g_get (C0 := RX1) (T := TX1) (N := 22) 0 1 0 (.int (0)) C hin rfl rfl (by decide) (by decide +kernel) rfl dX1_pass_36 ?_
      refine g_if_le 44 C dX1_pass_39 (by decide) (fun _ => ?_) (fun q => absurd q (by decide))
      refine g_iconst 0 C dX1_pass_44 (by decide) ?_
      refine g_istore_n [(2, .int (0)), (0, .ref (h 0)), (1, .int (nI (d')))] C dX1_pass_45 rfl (by decide) rfl ?_
      have loop_46 : ∀ (fu : Nat) (k : Nat), k ≤ d' → d' + 1 ≤ k + fu → G p l e ({ frames := 2, cells := 0, slots := 6 * 0, locals := 44 } : Room) s m args below meth c D (va_A (wM cI h τ) s.heap.size) 3 0 0 (gQ below D (wM cI h τ) (wM cI h (mS K τ (pN (sS τ 0 0) ni (cl (nI d'))))) none (some (.int (mR K ((pN (sS τ 0 0) ni (cl (nI d'))).1 5)))) 0 args s) (wM cI h (pN (sS τ 0 0) ni k)) [(0, .ref (h 0)), (1, .int (nI (d'))), (2, .int (nI (k)))] 46 [] := by
        intro fu
        induction fu with
        | zero => intro k hk hf; exact absurd True.intro (by omega)
        | succ fu ih_46 =>
          intro k hk hf
          have hIk := iM0_pN (iM0_S0 hI0 0) k
          refine g_iload_n 2 C rfl dX1_pass_46 rfl ?_
          refine g_iload_n 1 C rfl dX1_pass_47 rfl ?_
          refine g_icmp_ge 61 C dX1_pass_48 (by decide) (fun c_48_3 => ?_) (fun c_48_3 => ?_)
          ·
            have d_48_3 : d' ≤ k := (nI_leI (a := d') (b := k) (by omega) (by omega)).mp c_48_3
            refine g_aload_n 0 C rfl dX1_pass_61 rfl ?_
            refine g_get (C0 := RX1) (T := TX1) (N := 22) 0 1 19 (.int ((pN (sS τ 0 0) ni k).1 5)) C hin rfl rfl (by decide) (by decide +kernel) rfl dX1_pass_62 ?_
            obtain rfl : K = 0 := hK.trans (by simp [tm_pass, b_8_1, c_24_2, c_48_3, kd'])
            exact g_iret C hr rfl dX1_pass_65 (Nat.zero_le _) (Nat.zero_le _) rfl (by rw [kd', show d' = k by omega]; rfl) (by rw [kd', show d' = k by omega]; rfl)
          ·
            have d_48_3 : ¬ d' ≤ k := fun zz => c_48_3 ((nI_leI (a := d') (b := k) (by omega) (by omega)).mpr zz)
            refine g_aload_n 0 C rfl dX1_pass_51 rfl ?_
            refine g_callV0 (C0 := RX1) (T := TX1) (N := 22) (ci := 1) (na := 0) (As := []) (c_m_passOne l D cI cJ h (pN (sS τ 0 0) ni k) np nt no ni hIk) C gX1_pass_X1_passOne rfl (by decide +kernel) rfl ⟨Nat.le_of_ble_eq_true rfl, Nat.le_of_ble_eq_true rfl⟩ rfl rfl rfl (Nat.le_of_ble_eq_true rfl) ⟨Nat.zero_le _, Nat.zero_le _⟩ rfl dX1_pass_52 ?_
            refine g_w (wM cI h (pN (sS τ 0 0) ni (k + 1))) rfl ?_
            refine g_iincN 2 k 1 [(2, .int (nI (k + 1))), (0, .ref (h 0)), (1, .int (nI (d')))] C dX1_pass_55 rfl (by decide) (by decide) rfl ?_
            refine g_goto 46 C dX1_pass_58 (by decide) ?_
            refine g_lv [1, 2, 0] [(0, .ref (h 0)), (1, .int (nI (d'))), (2, .int (nI (k + 1)))] rfl ?_
            exact ih_46 (k + 1) (by omega) (by omega)
      refine g_lv [1, 2, 0] [(0, .ref (h 0)), (1, .int (nI (d'))), (2, .int (0))] rfl ?_
      exact loop_46 (d' + 1) 0 (by omega) (by omega)
    ·
      refine g_iconst 2 C dX1_pass_27 (by decide) ?_
      refine g_goto 32 C dX1_pass_28 (by decide) ?_
      refine g_put (C0 := RX1) (T := TX1) (N := 22) 0 1 0 (wM cI h (sS τ 0 (2))) C hin tyX1_ok nmX1 rfl rfl (by decide) (by decide +kernel) rfl (by decide +kernel) (Nat.le_of_ble_eq_true rfl) rfl dX1_pass_32 ?_
      refine g_aload_n 0 C rfl dX1_pass_35 rfl ?_
      refine g_get (C0 := RX1) (T := TX1) (N := 22) 0 1 0 (.int (2)) C hin rfl rfl (by decide) (by decide +kernel) rfl dX1_pass_36 ?_
      refine g_if_le 44 C dX1_pass_39 (by decide) (fun q => absurd q (by decide)) (fun _ => ?_)
      refine g_iconst 0 C dX1_pass_42 (by decide) ?_
      obtain rfl : K = 2 := hK.trans (by simp [tm_pass, b_8_1, c_24_2, kd'])
      exact g_iret C hr rfl dX1_pass_43 (Nat.zero_le _) (Nat.zero_le _) rfl rfl rfl
  ·
    have b_8_1 : out (d) (1) (100) := Classical.byContradiction (bI_eq c_8_1)
    refine g_iconst 1 C dX1_pass_11 (by decide) ?_
    refine g_goto 32 C dX1_pass_12 (by decide) ?_
    refine g_put (C0 := RX1) (T := TX1) (N := 22) 0 1 0 (wM cI h (sS τ 0 (1))) C hin tyX1_ok nmX1 rfl rfl (by decide) (by decide +kernel) rfl (by decide +kernel) (Nat.le_of_ble_eq_true rfl) rfl dX1_pass_32 ?_
    refine g_aload_n 0 C rfl dX1_pass_35 rfl ?_
    refine g_get (C0 := RX1) (T := TX1) (N := 22) 0 1 0 (.int (1)) C hin rfl rfl (by decide) (by decide +kernel) rfl dX1_pass_36 ?_
    refine g_if_le 44 C dX1_pass_39 (by decide) (fun q => absurd q (by decide)) (fun _ => ?_)
    refine g_iconst 0 C dX1_pass_42 (by decide) ?_
    obtain rfl : K = 1 := hK.trans (by simp [tm_pass, b_8_1])
    exact g_iret C hr rfl dX1_pass_43 (Nat.zero_le _) (Nat.zero_le _) rfl rfl rfl
set_option maxRecDepth 100000 in
set_option maxHeartbeats 4000000 in
theorem c_m_left (l : Launch) (D : va_G) (cI cJ : ClassId) (h : Nat → Nat) (τ : gS) (np nt no ni : Nat) (hI : iM0 τ np nt no ni) (t : Int32) (K : Nat) (hK : K = tm_left nt t) : MC l yX1_left wsX1_left 2 43 D (tyIJ cI cJ) [.ref (h 0), .int (t)] (wM cI h τ) (wM cI h (mS K τ (sS τ 0 0))) none (some (.int (mR K (τ.2 2 (cl t))))) 0 := by
  have hI0 := hI
  obtain ⟨⟨hnp, hnp6⟩, ⟨hnt, hnt12⟩, ⟨hno, hno10⟩, ⟨hni, hni8⟩, hPT, hLC, hHS⟩ := hI
  refine MC.ofG (cc := cX1_left) (maxL := 2) (ret := (some .int)) [(0, .ref (h 0)), (1, .int (t))] (by decide) rfl (Nat.le_of_ble_eq_true rfl) rfl ?_
  intro p e s m args below meth c C hr hout
  have hin : ∀ w ∈ wsX10, w ∈ wsX1_left := fun w h => by first | exact List.mem_cons_of_mem _ (List.mem_append_right _ h) | exact List.mem_cons_of_mem _ (List.mem_append_left _ (List.mem_append_right _ h)) | exact List.mem_cons_of_mem _ (List.mem_append_left _ (List.mem_append_left _ (List.mem_append_right _ h))) | exact List.mem_cons_of_mem _ (List.mem_append_left _ (List.mem_append_left _ (List.mem_append_left _ (List.mem_append_right _ h)))) | exact List.mem_cons_of_mem _ (List.mem_append_left _ (List.mem_append_left _ (List.mem_append_left _ (List.mem_append_left _ (List.mem_append_right _ h)))))
  refine g_aload_n 0 C rfl dX1_left_0 rfl ?_
  refine g_aload_n 0 C rfl dX1_left_1 rfl ?_
  refine g_iload_n 1 C rfl dX1_left_2 rfl ?_
  refine g_callV0 (C0 := RX1) (T := TX1) (N := 22) (ci := 1) (na := 1) (As := [.int (t)]) (c_m_isTube l D cI cJ h τ np nt no ni hI0 (t)) C gX1_left_X1_isTube rfl (by decide +kernel) rfl ⟨Nat.le_of_ble_eq_true rfl, Nat.le_of_ble_eq_true rfl⟩ rfl rfl rfl (Nat.le_of_ble_eq_true rfl) ⟨Nat.zero_le _, Nat.zero_le _⟩ rfl dX1_left_3 ?_
  refine g_if_eq 13 C dX1_left_6 (by decide) (fun c_6_1 => ?_) (fun c_6_1 => ?_)
  ·
    have b_6_1 : bad (t) (nI nt) := Classical.byContradiction (bI_eq c_6_1)
    refine g_iconst 1 C dX1_left_13 (by decide) ?_
    refine g_put (C0 := RX1) (T := TX1) (N := 22) 0 1 0 (wM cI h (sS τ 0 (1))) C hin tyX1_ok nmX1 rfl rfl (by decide) (by decide +kernel) rfl (by decide +kernel) (Nat.le_of_ble_eq_true rfl) rfl dX1_left_14 ?_
    refine g_aload_n 0 C rfl dX1_left_17 rfl ?_
    refine g_get (C0 := RX1) (T := TX1) (N := 22) 0 1 0 (.int (1)) C hin rfl rfl (by decide) (by decide +kernel) rfl dX1_left_18 ?_
    refine g_if_le 28 C dX1_left_21 (by decide) (fun q => absurd q (by decide)) (fun _ => ?_)
    refine g_iconst 0 C dX1_left_24 (by decide) ?_
    refine g_goto 34 C dX1_left_25 (by decide) ?_
    obtain rfl : K = 1 := hK.trans (by simp [tm_left, b_6_1])
    exact g_iret C hr rfl dX1_left_34 (Nat.zero_le _) (Nat.zero_le _) rfl rfl rfl
  ·
    have b_6_1 : ¬ bad (t) (nI nt) := bI_ne c_6_1
    refine g_iconst 0 C dX1_left_9 (by decide) ?_
    refine g_goto 14 C dX1_left_10 (by decide) ?_
    refine g_put (C0 := RX1) (T := TX1) (N := 22) 0 1 0 (wM cI h (sS τ 0 (0))) C hin tyX1_ok nmX1 rfl rfl (by decide) (by decide +kernel) rfl (by decide +kernel) (Nat.le_of_ble_eq_true rfl) rfl dX1_left_14 ?_
    refine g_aload_n 0 C rfl dX1_left_17 rfl ?_
    refine g_get (C0 := RX1) (T := TX1) (N := 22) 0 1 0 (.int (0)) C hin rfl rfl (by decide) (by decide +kernel) rfl dX1_left_18 ?_
    refine g_if_le 28 C dX1_left_21 (by decide) (fun _ => ?_) (fun q => absurd q (by decide))
    obtain ⟨t', ht', rfl⟩ := nb_of (N := nt) rfl (by omega) b_6_1
    have kt' : cl (nI t') = t' := cl_nI (by omega)
    refine g_aload_n 0 C rfl dX1_left_28 rfl ?_
    refine g_get (C0 := RX1) (T := TX1) (N := 22) 0 1 5 (.ref (h 3)) C hin rfl rfl (by decide) (by decide +kernel) rfl dX1_left_29 ?_
    refine g_iload_n 1 C rfl dX1_left_32 rfl ?_
    refine g_ialdN (cA := cI) (n := 12) (a := h 3) (f := τ.2 2) t' 3 0 C rfl rfl (by omega) (by decide) dX1_left_33 ?_
    obtain rfl : K = 0 := hK.trans (by simp [tm_left, b_6_1, kt'])
    exact g_iret C hr rfl dX1_left_34 (Nat.zero_le _) (Nat.zero_le _) rfl (by rw [kt']; rfl) rfl
set_option maxRecDepth 100000 in
set_option maxHeartbeats 4000000 in
theorem c_m_paid (l : Launch) (D : va_G) (cI cJ : ClassId) (h : Nat → Nat) (τ : gS) (np nt no ni : Nat) (hI : iM0 τ np nt no ni) (x : Int32) (K : Nat) (hK : K = tm_paid x) : MC l yX1_paid wsX1_paid 2 42 D (tyIJ cI cJ) [.ref (h 0), .int (x)] (wM cI h τ) (wM cI h (mS K τ (sS τ 0 0))) none (some (.int (mR K (τ.2 13 (cl x))))) 0 := by
  have hI0 := hI
  obtain ⟨⟨hnp, hnp6⟩, ⟨hnt, hnt12⟩, ⟨hno, hno10⟩, ⟨hni, hni8⟩, hPT, hLC, hHS⟩ := hI
  refine MC.ofG (cc := cX1_paid) (maxL := 2) (ret := (some .int)) [(0, .ref (h 0)), (1, .int (x))] (by decide) rfl (Nat.le_of_ble_eq_true rfl) rfl ?_
  intro p e s m args below meth c C hr hout
  have hin : ∀ w ∈ wsX10, w ∈ wsX1_paid := fun w h => by first | exact List.mem_cons_of_mem _ (List.mem_append_right _ h) | exact List.mem_cons_of_mem _ (List.mem_append_left _ (List.mem_append_right _ h)) | exact List.mem_cons_of_mem _ (List.mem_append_left _ (List.mem_append_left _ (List.mem_append_right _ h))) | exact List.mem_cons_of_mem _ (List.mem_append_left _ (List.mem_append_left _ (List.mem_append_left _ (List.mem_append_right _ h)))) | exact List.mem_cons_of_mem _ (List.mem_append_left _ (List.mem_append_left _ (List.mem_append_left _ (List.mem_append_left _ (List.mem_append_right _ h)))))
  refine g_aload_n 0 C rfl dX1_paid_0 rfl ?_
  refine g_iload_n 1 C rfl dX1_paid_1 rfl ?_
  refine g_callS0 (na := 1) (av := [.int (x)]) (c_m_isHouse l D cI cJ _ (x)) C gX1_paid_X1_isHouse rfl (by decide +kernel) rfl ⟨Nat.le_of_ble_eq_true rfl, Nat.le_of_ble_eq_true rfl⟩ rfl (Nat.le_of_ble_eq_true rfl) ⟨Nat.zero_le _, Nat.zero_le _⟩ rfl dX1_paid_2 ?_
  refine g_if_eq 12 C dX1_paid_5 (by decide) (fun c_5_1 => ?_) (fun c_5_1 => ?_)
  ·
    have b_5_1 : bad (x) 4 := Classical.byContradiction (bI_eq c_5_1)
    refine g_iconst 1 C dX1_paid_12 (by decide) ?_
    refine g_put (C0 := RX1) (T := TX1) (N := 22) 0 1 0 (wM cI h (sS τ 0 (1))) C hin tyX1_ok nmX1 rfl rfl (by decide) (by decide +kernel) rfl (by decide +kernel) (Nat.le_of_ble_eq_true rfl) rfl dX1_paid_13 ?_
    refine g_aload_n 0 C rfl dX1_paid_16 rfl ?_
    refine g_get (C0 := RX1) (T := TX1) (N := 22) 0 1 0 (.int (1)) C hin rfl rfl (by decide) (by decide +kernel) rfl dX1_paid_17 ?_
    refine g_if_le 27 C dX1_paid_20 (by decide) (fun q => absurd q (by decide)) (fun _ => ?_)
    refine g_iconst 0 C dX1_paid_23 (by decide) ?_
    refine g_goto 33 C dX1_paid_24 (by decide) ?_
    obtain rfl : K = 1 := hK.trans (by simp [tm_paid, b_5_1])
    exact g_iret C hr rfl dX1_paid_33 (Nat.zero_le _) (Nat.zero_le _) rfl rfl rfl
  ·
    have b_5_1 : ¬ bad (x) 4 := bI_ne c_5_1
    refine g_iconst 0 C dX1_paid_8 (by decide) ?_
    refine g_goto 13 C dX1_paid_9 (by decide) ?_
    refine g_put (C0 := RX1) (T := TX1) (N := 22) 0 1 0 (wM cI h (sS τ 0 (0))) C hin tyX1_ok nmX1 rfl rfl (by decide) (by decide +kernel) rfl (by decide +kernel) (Nat.le_of_ble_eq_true rfl) rfl dX1_paid_13 ?_
    refine g_aload_n 0 C rfl dX1_paid_16 rfl ?_
    refine g_get (C0 := RX1) (T := TX1) (N := 22) 0 1 0 (.int (0)) C hin rfl rfl (by decide) (by decide +kernel) rfl dX1_paid_17 ?_
    refine g_if_le 27 C dX1_paid_20 (by decide) (fun _ => ?_) (fun q => absurd q (by decide))
    obtain ⟨x', hx', rfl⟩ := nb_of (N := 4) rfl (by omega) b_5_1
    have kx' : cl (nI x') = x' := cl_nI (by omega)
    refine g_aload_n 0 C rfl dX1_paid_27 rfl ?_
    refine g_get (C0 := RX1) (T := TX1) (N := 22) 0 1 18 (.ref (h 14)) C hin rfl rfl (by decide) (by decide +kernel) rfl dX1_paid_28 ?_
    refine g_iload_n 1 C rfl dX1_paid_31 rfl ?_
    refine g_ialdN (cA := cI) (n := 4) (a := h 14) (f := τ.2 13) x' 14 0 C rfl rfl (by omega) (by decide) dX1_paid_32 ?_
    obtain rfl : K = 0 := hK.trans (by simp [tm_paid, b_5_1, kx'])
    exact g_iret C hr rfl dX1_paid_33 (Nat.zero_le _) (Nat.zero_le _) rfl (by rw [kx']; rfl) rfl
set_option maxRecDepth 100000 in
set_option maxHeartbeats 4000000 in
theorem c_m_has (l : Launch) (D : va_G) (cI cJ : ClassId) (h : Nat → Nat) (τ : gS) (np nt no ni : Nat) (hI : iM0 τ np nt no ni) (x t : Int32) (K : Nat) (hK : K = tm_has nt no x t) : MC l yX1_has wsX1_has 2 43 D (tyIJ cI cJ) [.ref (h 0), .int (x), .int (t)] (wM cI h τ) (wM cI h (mS K τ (sS τ 0 0))) none (some (.int (mR K (rm_has τ (cl x) t)))) 0 := by
  have hI0 := hI
  obtain ⟨⟨hnp, hnp6⟩, ⟨hnt, hnt12⟩, ⟨hno, hno10⟩, ⟨hni, hni8⟩, hPT, hLC, hHS⟩ := hI
  refine MC.ofG (cc := cX1_has) (maxL := 3) (ret := (some .int)) [(0, .ref (h 0)), (1, .int (x)), (2, .int (t))] (by decide) rfl (Nat.le_of_ble_eq_true rfl) rfl ?_
  intro p e s m args below meth c C hr hout
  have hin : ∀ w ∈ wsX10, w ∈ wsX1_has := fun w h => by first | exact List.mem_cons_of_mem _ (List.mem_append_right _ h) | exact List.mem_cons_of_mem _ (List.mem_append_left _ (List.mem_append_right _ h)) | exact List.mem_cons_of_mem _ (List.mem_append_left _ (List.mem_append_left _ (List.mem_append_right _ h))) | exact List.mem_cons_of_mem _ (List.mem_append_left _ (List.mem_append_left _ (List.mem_append_left _ (List.mem_append_right _ h)))) | exact List.mem_cons_of_mem _ (List.mem_append_left _ (List.mem_append_left _ (List.mem_append_left _ (List.mem_append_left _ (List.mem_append_right _ h)))))
  refine g_aload_n 0 C rfl dX1_has_0 rfl ?_
  refine g_aload_n 0 C rfl dX1_has_1 rfl ?_
  refine g_iload_n 1 C rfl dX1_has_2 rfl ?_
  refine g_callV0 (C0 := RX1) (T := TX1) (N := 22) (ci := 1) (na := 1) (As := [.int (x)]) (c_m_isPot l D cI cJ h τ np nt no ni hI0 (x)) C gX1_has_X1_isPot rfl (by decide +kernel) rfl ⟨Nat.le_of_ble_eq_true rfl, Nat.le_of_ble_eq_true rfl⟩ rfl rfl rfl (Nat.le_of_ble_eq_true rfl) ⟨Nat.zero_le _, Nat.zero_le _⟩ rfl dX1_has_3 ?_
  refine g_if_eq 26 C dX1_has_6 (by decide) (fun c_6_1 => ?_) (fun c_6_1 => ?_)
  ·
    have b_6_1 : bad (x) (nI no) := Classical.byContradiction (bI_eq c_6_1)
    refine g_iconst 1 C dX1_has_26 (by decide) ?_
    refine g_put (C0 := RX1) (T := TX1) (N := 22) 0 1 0 (wM cI h (sS τ 0 (1))) C hin tyX1_ok nmX1 rfl rfl (by decide) (by decide +kernel) rfl (by decide +kernel) (Nat.le_of_ble_eq_true rfl) rfl dX1_has_27 ?_
    refine g_aload_n 0 C rfl dX1_has_30 rfl ?_
    refine g_get (C0 := RX1) (T := TX1) (N := 22) 0 1 0 (.int (1)) C hin rfl rfl (by decide) (by decide +kernel) rfl dX1_has_31 ?_
    refine g_if_le 39 C dX1_has_34 (by decide) (fun q => absurd q (by decide)) (fun _ => ?_)
    refine g_iconst 0 C dX1_has_37 (by decide) ?_
    obtain rfl : K = 1 := hK.trans (by simp [tm_has, b_6_1])
    exact g_iret C hr rfl dX1_has_38 (Nat.zero_le _) (Nat.zero_le _) rfl rfl rfl
  ·
    have b_6_1 : ¬ bad (x) (nI no) := bI_ne c_6_1
    refine g_iload_n 2 C rfl dX1_has_9 rfl ?_
    refine g_iconst (-1) C dX1_has_10 (by decide) ?_
    refine g_icmp_eq 22 C dX1_has_11 (by decide) (fun c_11_2 => ?_) (fun c_11_2 => ?_)
    ·
      refine g_iconst 0 C dX1_has_22 (by decide) ?_
      refine g_goto 27 C dX1_has_23 (by decide) ?_
      refine g_put (C0 := RX1) (T := TX1) (N := 22) 0 1 0 (wM cI h (sS τ 0 (0))) C hin tyX1_ok nmX1 rfl rfl (by decide) (by decide +kernel) rfl (by decide +kernel) (Nat.le_of_ble_eq_true rfl) rfl dX1_has_27 ?_
      refine g_aload_n 0 C rfl dX1_has_30 rfl ?_
      refine g_get (C0 := RX1) (T := TX1) (N := 22) 0 1 0 (.int (0)) C hin rfl rfl (by decide) (by decide +kernel) rfl dX1_has_31 ?_
      refine g_if_le 39 C dX1_has_34 (by decide) (fun _ => ?_) (fun q => absurd q (by decide))
      obtain ⟨x', hx', rfl⟩ := nb_of (N := no) rfl (by omega) b_6_1
      have kx' : cl (nI x') = x' := cl_nI (by omega)
      refine g_iload_n 2 C rfl dX1_has_39 rfl ?_
      refine g_iconst (-1) C dX1_has_40 (by decide) ?_
      refine g_icmp_ne 52 C dX1_has_41 (by decide) (fun q => absurd c_11_2 q) (fun _ => ?_)
      refine g_aload_n 0 C rfl dX1_has_44 rfl ?_
      refine g_iload_n 1 C rfl dX1_has_45 rfl ?_
      refine g_callV0 (C0 := RX1) (T := TX1) (N := 22) (ci := 1) (na := 1) (As := [.int (nI (x'))]) (c_m_gramsOf l D cI cJ h (sS τ 0 (0)) np nt no ni hI0 x' (by omega)) C gX1_has_X1_gramsOf rfl (by decide +kernel) rfl ⟨Nat.le_of_ble_eq_true rfl, Nat.le_of_ble_eq_true rfl⟩ rfl rfl rfl (Nat.le_of_ble_eq_true rfl) ⟨Nat.zero_le _, Nat.zero_le _⟩ rfl dX1_has_46 ?_
      refine g_goto 63 C dX1_has_49 (by decide) ?_
      obtain rfl : K = 0 := hK.trans (by simp [tm_has, b_6_1, c_11_2, kx'])
      exact g_iret C hr rfl dX1_has_63 (Nat.zero_le _) (Nat.zero_le _) rfl (by rw [kx', rm_has, if_pos c_11_2]; rfl) rfl
    ·
      refine g_aload_n 0 C rfl dX1_has_14 rfl ?_
      refine g_iload_n 2 C rfl dX1_has_15 rfl ?_
      refine g_callV0 (C0 := RX1) (T := TX1) (N := 22) (ci := 1) (na := 1) (As := [.int (t)]) (c_m_isTube l D cI cJ h τ np nt no ni hI0 (t)) C gX1_has_X1_isTube rfl (by decide +kernel) rfl ⟨Nat.le_of_ble_eq_true rfl, Nat.le_of_ble_eq_true rfl⟩ rfl rfl rfl (Nat.le_of_ble_eq_true rfl) ⟨Nat.zero_le _, Nat.zero_le _⟩ rfl dX1_has_16 ?_
      refine g_if_eq 26 C dX1_has_19 (by decide) (fun c_19_3 => ?_) (fun c_19_3 => ?_)
      ·
        have b_19_3 : bad (t) (nI nt) := Classical.byContradiction (bI_eq c_19_3)
        refine g_iconst 1 C dX1_has_26 (by decide) ?_
        refine g_put (C0 := RX1) (T := TX1) (N := 22) 0 1 0 (wM cI h (sS τ 0 (1))) C hin tyX1_ok nmX1 rfl rfl (by decide) (by decide +kernel) rfl (by decide +kernel) (Nat.le_of_ble_eq_true rfl) rfl dX1_has_27 ?_
        refine g_aload_n 0 C rfl dX1_has_30 rfl ?_
        refine g_get (C0 := RX1) (T := TX1) (N := 22) 0 1 0 (.int (1)) C hin rfl rfl (by decide) (by decide +kernel) rfl dX1_has_31 ?_
        refine g_if_le 39 C dX1_has_34 (by decide) (fun q => absurd q (by decide)) (fun _ => ?_)
        refine g_iconst 0 C dX1_has_37 (by decide) ?_
        obtain rfl : K = 1 := hK.trans (by simp [tm_has, b_6_1, c_11_2, b_19_3])
        exact g_iret C hr rfl dX1_has_38 (Nat.zero_le _) (Nat.zero_le _) rfl rfl rfl
      ·
        have b_19_3 : ¬ bad (t) (nI nt) := bI_ne c_19_3
        refine g_iconst 0 C dX1_has_22 (by decide) ?_
        refine g_goto 27 C dX1_has_23 (by decide) ?_
        refine g_put (C0 := RX1) (T := TX1) (N := 22) 0 1 0 (wM cI h (sS τ 0 (0))) C hin tyX1_ok nmX1 rfl rfl (by decide) (by decide +kernel) rfl (by decide +kernel) (Nat.le_of_ble_eq_true rfl) rfl dX1_has_27 ?_
        refine g_aload_n 0 C rfl dX1_has_30 rfl ?_
        refine g_get (C0 := RX1) (T := TX1) (N := 22) 0 1 0 (.int (0)) C hin rfl rfl (by decide) (by decide +kernel) rfl dX1_has_31 ?_
        refine g_if_le 39 C dX1_has_34 (by decide) (fun _ => ?_) (fun q => absurd q (by decide))
        obtain ⟨x', hx', rfl⟩ := nb_of (N := no) rfl (by omega) b_6_1
        have kx' : cl (nI x') = x' := cl_nI (by omega)
        refine g_iload_n 2 C rfl dX1_has_39 rfl ?_
        refine g_iconst (-1) C dX1_has_40 (by decide) ?_
        refine g_icmp_ne 52 C dX1_has_41 (by decide) (fun _ => ?_) (fun q => absurd q c_11_2)
        obtain ⟨t', ht', rfl⟩ := nb_of (N := nt) rfl (by omega) b_19_3
        have kt' : cl (nI t') = t' := cl_nI (by omega)
        refine g_aload_n 0 C rfl dX1_has_52 rfl ?_
        refine g_get (C0 := RX1) (T := TX1) (N := 22) 0 1 8 (.ref (h 5)) C hin rfl rfl (by decide) (by decide +kernel) rfl dX1_has_53 ?_
        refine g_bipush 12 C dX1_has_56 (by decide) ?_
        refine g_iload_n 1 C rfl dX1_has_58 rfl ?_
        refine g_imulN 12 x' C dX1_has_59 ?_
        refine g_iload_n 2 C rfl dX1_has_60 rfl ?_
        refine g_iaddN (12 * x') t' C dX1_has_61 ?_
        refine g_ialdN (cA := cI) (n := 120) (a := h 5) (f := τ.2 4) ((12 * x') + t') 5 0 C rfl rfl (by omega) (by decide) dX1_has_62 ?_
        obtain rfl : K = 0 := hK.trans (by simp [tm_has, b_6_1, c_11_2, b_19_3, kx', kt'])
        exact g_iret C hr rfl dX1_has_63 (Nat.zero_le _) (Nat.zero_le _) rfl (by rw [kx', rm_has, if_neg c_11_2, kt']; rfl) rfl
set_option maxRecDepth 100000 in
set_option maxHeartbeats 4000000 in
theorem c_m_colour (l : Launch) (D : va_G) (cI cJ : ClassId) (h : Nat → Nat) (τ : gS) (np nt no ni : Nat) (hI : iM0 τ np nt no ni) (x v : Int32) (K : Nat) (hK : K = tm_colour no x v) : MC l yX1_colour wsX1_colour 2 43 D (tyIJ cI cJ) [.ref (h 0), .int (x), .int (v)] (wM cI h τ) (wM cI h (mS K τ (sS τ 0 0))) none (some (.int (mR K (rm_colour τ nt (cl x) (cl v))))) 0 := by
  have hI0 := hI
  obtain ⟨⟨hnp, hnp6⟩, ⟨hnt, hnt12⟩, ⟨hno, hno10⟩, ⟨hni, hni8⟩, hPT, hLC, hHS⟩ := hI
  refine MC.ofG (cc := cX1_colour) (maxL := 6) (ret := (some .int)) [(0, .ref (h 0)), (1, .int (x)), (2, .int (v))] (by decide) rfl (Nat.le_of_ble_eq_true rfl) rfl ?_
  intro p e s m args below meth c C hr hout
  have hin : ∀ w ∈ wsX10, w ∈ wsX1_colour := fun w h => by first | exact List.mem_cons_of_mem _ (List.mem_append_right _ h) | exact List.mem_cons_of_mem _ (List.mem_append_left _ (List.mem_append_right _ h)) | exact List.mem_cons_of_mem _ (List.mem_append_left _ (List.mem_append_left _ (List.mem_append_right _ h))) | exact List.mem_cons_of_mem _ (List.mem_append_left _ (List.mem_append_left _ (List.mem_append_left _ (List.mem_append_right _ h)))) | exact List.mem_cons_of_mem _ (List.mem_append_left _ (List.mem_append_left _ (List.mem_append_left _ (List.mem_append_left _ (List.mem_append_right _ h)))))
  refine g_aload_n 0 C rfl dX1_colour_0 rfl ?_
  refine g_aload_n 0 C rfl dX1_colour_1 rfl ?_
  refine g_iload_n 1 C rfl dX1_colour_2 rfl ?_
  refine g_callV0 (C0 := RX1) (T := TX1) (N := 22) (ci := 1) (na := 1) (As := [.int (x)]) (c_m_isPot l D cI cJ h τ np nt no ni hI0 (x)) C gX1_colour_X1_isPot rfl (by decide +kernel) rfl ⟨Nat.le_of_ble_eq_true rfl, Nat.le_of_ble_eq_true rfl⟩ rfl rfl rfl (Nat.le_of_ble_eq_true rfl) ⟨Nat.zero_le _, Nat.zero_le _⟩ rfl dX1_colour_3 ?_
  refine g_if_ne 13 C dX1_colour_6 (by decide) (fun c_6_1 => ?_) (fun c_6_1 => ?_)
  ·
    have b_6_1 : ¬ bad (x) (nI no) := bI_ne c_6_1
    refine g_iload_n 2 C rfl dX1_colour_13 rfl ?_
    refine g_iconst 0 C dX1_colour_14 (by decide) ?_
    refine g_iconst 2 C dX1_colour_15 (by decide) ?_
    refine g_callS0 (na := 3) (av := [.int (v), .int (0), .int (2)]) (c_m_in l D cI cJ _ (v) (0) (2)) C gX1_colour_X1_in rfl (by decide +kernel) rfl ⟨Nat.le_of_ble_eq_true rfl, Nat.le_of_ble_eq_true rfl⟩ rfl (Nat.le_of_ble_eq_true rfl) ⟨Nat.zero_le _, Nat.zero_le _⟩ rfl dX1_colour_16 ?_
    refine g_if_ne 26 C dX1_colour_19 (by decide) (fun c_19_2 => ?_) (fun c_19_2 => ?_)
    ·
      have b_19_2 : ¬ out (v) (0) (2) := bI_ne c_19_2
      refine g_iconst 0 C dX1_colour_26 (by decide) ?_
      refine g_put (C0 := RX1) (T := TX1) (N := 22) 0 1 0 (wM cI h (sS τ 0 (0))) C hin tyX1_ok nmX1 rfl rfl (by decide) (by decide +kernel) rfl (by decide +kernel) (Nat.le_of_ble_eq_true rfl) rfl dX1_colour_27 ?_
      refine g_aload_n 0 C rfl dX1_colour_30 rfl ?_
      refine g_get (C0 := RX1) (T := TX1) (N := 22) 0 1 0 (.int (0)) C hin rfl rfl (by decide) (by decide +kernel) rfl dX1_colour_31 ?_
      refine g_if_le 39 C dX1_colour_34 (by decide) (fun _ => ?_) (fun q => absurd q (by decide))
      obtain ⟨x', hx', rfl⟩ := nb_of (N := no) rfl (by omega) b_6_1
      have kx' : cl (nI x') = x' := cl_nI (by omega)
      obtain ⟨v', hv', rfl⟩ := out_nat (M := 2) rfl (by decide) b_19_2
      have kv' : cl (nI v') = v' := cl_nI (by omega)
      refine g_aload_n 0 C rfl dX1_colour_39 rfl ?_
      refine g_iload_n 1 C rfl dX1_colour_40 rfl ?_
      refine g_callV0 (C0 := RX1) (T := TX1) (N := 22) (ci := 1) (na := 1) (As := [.int (nI (x'))]) (c_m_gramsOf l D cI cJ h (sS τ 0 (0)) np nt no ni hI0 x' (by omega)) C gX1_colour_X1_gramsOf rfl (by decide +kernel) rfl ⟨Nat.le_of_ble_eq_true rfl, Nat.le_of_ble_eq_true rfl⟩ rfl rfl rfl (Nat.le_of_ble_eq_true rfl) ⟨Nat.zero_le _, Nat.zero_le _⟩ rfl dX1_colour_41 ?_
      refine g_istore_n [(3, .int (potS (τ.2 4) x' 12)), (0, .ref (h 0)), (1, .int (nI (x'))), (2, .int (nI (v')))] C dX1_colour_44 rfl (by decide) rfl ?_
      refine g_iconst 0 C dX1_colour_45 (by decide) ?_
      refine g_istore [(4, .int (0)), (3, .int (potS (τ.2 4) x' 12)), (0, .ref (h 0)), (1, .int (nI (x'))), (2, .int (nI (v')))] C dX1_colour_46 (by decide) rfl ?_
      refine g_iconst 0 C dX1_colour_48 (by decide) ?_
      refine g_istore [(5, .int (0)), (4, .int (0)), (3, .int (potS (τ.2 4) x' 12)), (0, .ref (h 0)), (1, .int (nI (x'))), (2, .int (nI (v')))] C dX1_colour_49 (by decide) rfl ?_
      have loop_51 : ∀ (fu : Nat) (t : Nat), t ≤ nt → nt + 1 ≤ t + fu → G p l e ({ frames := 2, cells := 0, slots := 6 * 0, locals := 43 } : Room) s m args below meth c D (va_A (wM cI h τ) s.heap.size) 6 0 0 (gQ below D (wM cI h τ) (wM cI h (mS K τ (sS τ 0 0))) none (some (.int (mR K (rm_colour τ nt (cl (nI x')) (cl (nI v')))))) 0 args s) (wM cI h (sS τ 0 (0))) [(0, .ref (h 0)), (1, .int (nI (x'))), (2, .int (nI (v'))), (3, .int (potS (τ.2 4) x' 12)), (4, .int (isum (fun t => τ.2 4 (12 * x' + t) * colM τ t v') t)), (5, .int (nI (t)))] 51 [] := by
        intro fu
        induction fu with
        | zero => intro t hi hf; exact absurd True.intro (by omega)
        | succ fu ih_51 =>
          intro t hi hf
          refine g_iload 5 C rfl dX1_colour_51 ?_
          refine g_aload_n 0 C rfl dX1_colour_53 rfl ?_
          refine g_get (C0 := RX1) (T := TX1) (N := 22) 0 1 3 (.int (τ.1 2)) C hin rfl rfl (by decide) (by decide +kernel) rfl dX1_colour_54 ?_
          refine g_is (nI nt) hnt ?_
          refine g_icmp_ge 100 C dX1_colour_57 (by decide) (fun c_57_3 => ?_) (fun c_57_3 => ?_)
          ·
            have d_57_3 : nt ≤ t := (nI_leI (a := nt) (b := t) (by omega) (by omega)).mp c_57_3
            obtain rfl : nt = t := by omega
            refine g_iload_n 3 C rfl dX1_colour_100 rfl ?_
            refine g_if_ne 108 C dX1_colour_101 (by decide) (fun c_101_4 => ?_) (fun c_101_4 => ?_)
            ·
              have cz := c_101_4
              refine g_iload 4 C rfl dX1_colour_108 ?_
              refine g_iload_n 3 C rfl dX1_colour_110 rfl ?_
              refine g_idiv C cz dX1_colour_111 ?_
              obtain rfl : K = 0 := hK.trans (by simp [tm_colour, b_6_1, b_19_2, c_57_3, c_101_4, kx', kv'])
              exact g_iret C hr rfl dX1_colour_112 (Nat.zero_le _) (Nat.zero_le _) rfl (by rw [kx', kv', rm_colour, if_neg cz]; rfl) rfl
            ·
              have cz := c_101_4
              refine g_iconst (-1) C dX1_colour_104 (by decide) ?_
              refine g_goto 112 C dX1_colour_105 (by decide) ?_
              obtain rfl : K = 0 := hK.trans (by simp [tm_colour, b_6_1, b_19_2, c_57_3, c_101_4, kx', kv'])
              exact g_iret C hr rfl dX1_colour_112 (Nat.zero_le _) (Nat.zero_le _) rfl (by rw [kx', kv', rm_colour, if_pos cz]; rfl) rfl
          ·
            have d_57_3 : ¬ nt ≤ t := fun zz => c_57_3 ((nI_leI (a := nt) (b := t) (by omega) (by omega)).mpr zz)
            refine g_iload 4 C rfl dX1_colour_60 ?_
            refine g_aload_n 0 C rfl dX1_colour_62 rfl ?_
            refine g_get (C0 := RX1) (T := TX1) (N := 22) 0 1 8 (.ref (h 5)) C hin rfl rfl (by decide) (by decide +kernel) rfl dX1_colour_63 ?_
            refine g_bipush 12 C dX1_colour_66 (by decide) ?_
            refine g_iload_n 1 C rfl dX1_colour_68 rfl ?_
            refine g_imulN 12 x' C dX1_colour_69 ?_
            refine g_iload 5 C rfl dX1_colour_70 ?_
            refine g_iaddN (12 * x') t C dX1_colour_72 ?_
            refine g_ialdN (cA := cI) (n := 120) (a := h 5) (f := τ.2 4) ((12 * x') + t) 5 0 C rfl rfl (by omega) (by decide) dX1_colour_73 ?_
            refine g_aload_n 0 C rfl dX1_colour_74 rfl ?_
            refine g_get (C0 := RX1) (T := TX1) (N := 22) 0 1 2 (.ref (h 1)) C hin rfl rfl (by decide) (by decide +kernel) rfl dX1_colour_75 ?_
            refine g_iconst 3 C dX1_colour_78 (by decide) ?_
            refine g_aload_n 0 C rfl dX1_colour_79 rfl ?_
            refine g_get (C0 := RX1) (T := TX1) (N := 22) 0 1 4 (.ref (h 2)) C hin rfl rfl (by decide) (by decide +kernel) rfl dX1_colour_80 ?_
            refine g_iload 5 C rfl dX1_colour_83 ?_
            refine g_ialdN (cA := cI) (n := 12) (a := h 2) (f := τ.2 1) t 2 0 C rfl rfl (by omega) (by decide) dX1_colour_85 ?_
            obtain ⟨jP, hjP, ejP⟩ := hPT t
            refine g_is (nI (jP)) ejP ?_
            refine g_imulN 3 jP C dX1_colour_86 ?_
            refine g_iload_n 2 C rfl dX1_colour_87 rfl ?_
            refine g_iaddN (3 * jP) v' C dX1_colour_88 ?_
            refine g_ialdN (cA := cI) (n := 18) (a := h 1) (f := τ.2 0) ((3 * jP) + v') 1 0 C rfl rfl (by omega) (by decide) dX1_colour_89 ?_
            refine g_is ((colM τ t v')) (by rw [colM, ejP, cl_nI (by omega)]) ?_
            refine g_imul C dX1_colour_90 ?_
            refine g_iadd C dX1_colour_91 ?_
            refine g_istore [(4, .int ((isum (fun t => τ.2 4 (12 * x' + t) * colM τ t v') t) + ((τ.2 4 ((12 * x') + t)) * (colM τ t v')))), (0, .ref (h 0)), (1, .int (nI (x'))), (2, .int (nI (v'))), (3, .int (potS (τ.2 4) x' 12)), (5, .int (nI (t)))] C dX1_colour_92 (by decide) rfl ?_
            refine g_iincN 5 t 1 [(5, .int (nI (t + 1))), (4, .int ((isum (fun t => τ.2 4 (12 * x' + t) * colM τ t v') t) + ((τ.2 4 ((12 * x') + t)) * (colM τ t v')))), (0, .ref (h 0)), (1, .int (nI (x'))), (2, .int (nI (v'))), (3, .int (potS (τ.2 4) x' 12))] C dX1_colour_94 rfl (by decide) (by decide) rfl ?_
            refine g_goto 51 C dX1_colour_97 (by decide) ?_
            refine g_lv [2, 3, 4, 5, 1, 0] [(0, .ref (h 0)), (1, .int (nI (x'))), (2, .int (nI (v'))), (3, .int (potS (τ.2 4) x' 12)), (4, .int ((isum (fun t => τ.2 4 (12 * x' + t) * colM τ t v') t) + ((τ.2 4 ((12 * x') + t)) * (colM τ t v')))), (5, .int (nI (t + 1)))] rfl ?_
            exact ih_51 (t + 1) (by omega) (by omega)
      refine g_lv [3, 4, 5, 2, 1, 0] [(0, .ref (h 0)), (1, .int (nI (x'))), (2, .int (nI (v'))), (3, .int (potS (τ.2 4) x' 12)), (4, .int (0)), (5, .int (0))] rfl ?_
      exact loop_51 (nt + 1) 0 (by omega) (by omega)
    ·
      have b_19_2 : out (v) (0) (2) := Classical.byContradiction (bI_eq c_19_2)
      refine g_iconst 2 C dX1_colour_22 (by decide) ?_
      refine g_goto 27 C dX1_colour_23 (by decide) ?_
      refine g_put (C0 := RX1) (T := TX1) (N := 22) 0 1 0 (wM cI h (sS τ 0 (2))) C hin tyX1_ok nmX1 rfl rfl (by decide) (by decide +kernel) rfl (by decide +kernel) (Nat.le_of_ble_eq_true rfl) rfl dX1_colour_27 ?_
      refine g_aload_n 0 C rfl dX1_colour_30 rfl ?_
      refine g_get (C0 := RX1) (T := TX1) (N := 22) 0 1 0 (.int (2)) C hin rfl rfl (by decide) (by decide +kernel) rfl dX1_colour_31 ?_
      refine g_if_le 39 C dX1_colour_34 (by decide) (fun q => absurd q (by decide)) (fun _ => ?_)
      refine g_iconst 0 C dX1_colour_37 (by decide) ?_
      obtain rfl : K = 2 := hK.trans (by simp [tm_colour, b_6_1, b_19_2])
      exact g_iret C hr rfl dX1_colour_38 (Nat.zero_le _) (Nat.zero_le _) rfl rfl rfl
  ·
    have b_6_1 : bad (x) (nI no) := Classical.byContradiction (bI_eq c_6_1)
    refine g_iconst 1 C dX1_colour_9 (by decide) ?_
    refine g_goto 27 C dX1_colour_10 (by decide) ?_
    refine g_put (C0 := RX1) (T := TX1) (N := 22) 0 1 0 (wM cI h (sS τ 0 (1))) C hin tyX1_ok nmX1 rfl rfl (by decide) (by decide +kernel) rfl (by decide +kernel) (Nat.le_of_ble_eq_true rfl) rfl dX1_colour_27 ?_
    refine g_aload_n 0 C rfl dX1_colour_30 rfl ?_
    refine g_get (C0 := RX1) (T := TX1) (N := 22) 0 1 0 (.int (1)) C hin rfl rfl (by decide) (by decide +kernel) rfl dX1_colour_31 ?_
    refine g_if_le 39 C dX1_colour_34 (by decide) (fun q => absurd q (by decide)) (fun _ => ?_)
    refine g_iconst 0 C dX1_colour_37 (by decide) ?_
    obtain rfl : K = 1 := hK.trans (by simp [tm_colour, b_6_1])
    exact g_iret C hr rfl dX1_colour_38 (Nat.zero_le _) (Nat.zero_le _) rfl rfl rfl
set_option maxRecDepth 100000 in
set_option maxHeartbeats 4000000 in
theorem c_m_of (l : Launch) (D : va_G) (cI cJ : ClassId) (h : Nat → Nat) (τ : gS) (np nt no ni : Nat) (hI : iM0 τ np nt no ni) (hz : ∀ q, q < ni → ¬ τ.2 5 q = 0 → ¬ isum (fun t => τ.2 6 (topB τ q + t)) nt = 0) (q v : Int32) (K : Nat) (hK : K = tm_of ni q v) : MC l yX1_of wsX1_of 3 70 D (tyIJ cI cJ) [.ref (h 0), .int (q), .int (v)] (wM cI h τ) (wM cI h (mS K τ (sm_of2 τ nt ni (cl q) (cl v)))) none (some (.int (mR K (rm_of (sS τ 0 0) nt ni (cl q) (cl v))))) 0 := by
  have hI0 := hI
  obtain ⟨⟨hnp, hnp6⟩, ⟨hnt, hnt12⟩, ⟨hno, hno10⟩, ⟨hni, hni8⟩, hPT, hLC, hHS⟩ := hI
  refine MC.ofG (cc := cX1_of) (maxL := 3) (ret := (some .int)) [(0, .ref (h 0)), (1, .int (q)), (2, .int (v))] (by decide) rfl (Nat.le_of_ble_eq_true rfl) rfl ?_
  intro p e s m args below meth c C hr hout
  have hin : ∀ w ∈ wsX10, w ∈ wsX1_of := fun w h => by first | exact List.mem_cons_of_mem _ (List.mem_append_right _ h) | exact List.mem_cons_of_mem _ (List.mem_append_left _ (List.mem_append_right _ h)) | exact List.mem_cons_of_mem _ (List.mem_append_left _ (List.mem_append_left _ (List.mem_append_right _ h))) | exact List.mem_cons_of_mem _ (List.mem_append_left _ (List.mem_append_left _ (List.mem_append_left _ (List.mem_append_right _ h)))) | exact List.mem_cons_of_mem _ (List.mem_append_left _ (List.mem_append_left _ (List.mem_append_left _ (List.mem_append_left _ (List.mem_append_right _ h)))))
  refine g_aload_n 0 C rfl dX1_of_0 rfl ?_
  refine g_aload_n 0 C rfl dX1_of_1 rfl ?_
  refine g_iload_n 1 C rfl dX1_of_2 rfl ?_
  refine g_callV0 (C0 := RX1) (T := TX1) (N := 22) (ci := 1) (na := 1) (As := [.int (q)]) (c_m_isPicture l D cI cJ h τ np nt no ni hI0 (q)) C gX1_of_X1_isPicture rfl (by decide +kernel) rfl ⟨Nat.le_of_ble_eq_true rfl, Nat.le_of_ble_eq_true rfl⟩ rfl rfl rfl (Nat.le_of_ble_eq_true rfl) ⟨Nat.zero_le _, Nat.zero_le _⟩ rfl dX1_of_3 ?_
  refine g_if_ne 13 C dX1_of_6 (by decide) (fun c_6_1 => ?_) (fun c_6_1 => ?_)
  ·
    have b_6_1 : ¬ bad (q) (nI ni) := bI_ne c_6_1
    refine g_iload_n 2 C rfl dX1_of_13 rfl ?_
    refine g_iconst 0 C dX1_of_14 (by decide) ?_
    refine g_bipush 8 C dX1_of_15 (by decide) ?_
    refine g_callS0 (na := 3) (av := [.int (v), .int (0), .int (8)]) (c_m_in l D cI cJ _ (v) (0) (8)) C gX1_of_X1_in rfl (by decide +kernel) rfl ⟨Nat.le_of_ble_eq_true rfl, Nat.le_of_ble_eq_true rfl⟩ rfl (Nat.le_of_ble_eq_true rfl) ⟨Nat.zero_le _, Nat.zero_le _⟩ rfl dX1_of_17 ?_
    refine g_if_ne 27 C dX1_of_20 (by decide) (fun c_20_2 => ?_) (fun c_20_2 => ?_)
    ·
      have b_20_2 : ¬ out (v) (0) (8) := bI_ne c_20_2
      refine g_iconst 0 C dX1_of_27 (by decide) ?_
      refine g_put (C0 := RX1) (T := TX1) (N := 22) 0 1 0 (wM cI h (sS τ 0 (0))) C hin tyX1_ok nmX1 rfl rfl (by decide) (by decide +kernel) rfl (by decide +kernel) (Nat.le_of_ble_eq_true rfl) rfl dX1_of_28 ?_
      refine g_aload_n 0 C rfl dX1_of_31 rfl ?_
      refine g_get (C0 := RX1) (T := TX1) (N := 22) 0 1 0 (.int (0)) C hin rfl rfl (by decide) (by decide +kernel) rfl dX1_of_32 ?_
      refine g_if_le 40 C dX1_of_35 (by decide) (fun _ => ?_) (fun q => absurd q (by decide))
      obtain ⟨q', hq', rfl⟩ := nb_of (N := ni) rfl (by omega) b_6_1
      have kq' : cl (nI q') = q' := cl_nI (by omega)
      obtain ⟨v', hv', rfl⟩ := out_nat (M := 8) rfl (by decide) b_20_2
      have kv' : cl (nI v') = v' := cl_nI (by omega)
      refine g_iload_n 2 C rfl dX1_of_40 rfl ?_
      by_cases e0 : v' = 0
      ·
        subst e0
        refine g_tableIn (off := 39) 80 C dX1_of_41 (by decide +kernel) (by decide +kernel) (by decide +kernel) (by decide) ?_
        refine g_aload_n 0 C rfl dX1_of_80 rfl ?_
        refine g_get (C0 := RX1) (T := TX1) (N := 22) 0 1 10 (.ref (h 6)) C hin rfl rfl (by decide) (by decide +kernel) rfl dX1_of_81 ?_
        refine g_iload_n 1 C rfl dX1_of_84 rfl ?_
        refine g_ialdN (cA := cI) (n := 8) (a := h 6) (f := τ.2 5) q' 6 0 C rfl rfl (by omega) (by decide) dX1_of_85 ?_
        obtain rfl : K = 0 := hK.trans (by simp [tm_of, b_6_1, b_20_2, kq', kv'])
        exact g_iret C hr rfl dX1_of_86 (Nat.zero_le _) (Nat.zero_le _) rfl (by rw [kq', kv']; rfl) (by rw [kq', kv']; rfl)
      by_cases e1 : v' = 1
      ·
        subst e1
        refine g_tableIn (off := 46) 87 C dX1_of_41 (by decide +kernel) (by decide +kernel) (by decide +kernel) (by decide) ?_
        refine g_aload_n 0 C rfl dX1_of_87 rfl ?_
        refine g_get (C0 := RX1) (T := TX1) (N := 22) 0 1 12 (.ref (h 8)) C hin rfl rfl (by decide) (by decide +kernel) rfl dX1_of_88 ?_
        refine g_iload_n 1 C rfl dX1_of_91 rfl ?_
        refine g_ialdN (cA := cI) (n := 8) (a := h 8) (f := τ.2 7) q' 8 0 C rfl rfl (by omega) (by decide) dX1_of_92 ?_
        obtain rfl : K = 0 := hK.trans (by simp [tm_of, b_6_1, b_20_2, kq', kv'])
        exact g_iret C hr rfl dX1_of_93 (Nat.zero_le _) (Nat.zero_le _) rfl (by rw [kq', kv']; rfl) (by rw [kq', kv']; rfl)
      by_cases e2 : v' = 2
      ·
        subst e2
        refine g_tableIn (off := 53) 94 C dX1_of_41 (by decide +kernel) (by decide +kernel) (by decide +kernel) (by decide) ?_
        refine g_aload_n 0 C rfl dX1_of_94 rfl ?_
        refine g_iload_n 1 C rfl dX1_of_95 rfl ?_
        refine g_callV0 (C0 := RX1) (T := TX1) (N := 22) (ci := 1) (na := 1) (As := [.int (nI (q'))]) (c_m_value l D cI cJ h (sS τ 0 (0)) np nt no ni hI0 q' (by omega)) C gX1_of_X1_value rfl (by decide +kernel) rfl ⟨Nat.le_of_ble_eq_true rfl, Nat.le_of_ble_eq_true rfl⟩ rfl rfl rfl (Nat.le_of_ble_eq_true rfl) ⟨Nat.zero_le _, Nat.zero_le _⟩ rfl dX1_of_96 ?_
        refine g_w (wM cI h (sA (sS τ 0 (0)) 15 (valF (sS τ 0 (0)) nt ni q'))) rfl ?_
        obtain rfl : K = 0 := hK.trans (by simp [tm_of, b_6_1, b_20_2, kq', kv'])
        exact g_iret C hr rfl dX1_of_99 (Nat.zero_le _) (Nat.zero_le _) rfl (by rw [kq', kv']; rfl) (by rw [kq', kv']; rfl)
      by_cases e3 : v' = 3
      ·
        subst e3
        refine g_tableIn (off := 59) 100 C dX1_of_41 (by decide +kernel) (by decide +kernel) (by decide +kernel) (by decide) ?_
        refine g_aload_n 0 C rfl dX1_of_100 rfl ?_
        refine g_iload_n 1 C rfl dX1_of_101 rfl ?_
        refine g_callV0 (C0 := RX1) (T := TX1) (N := 22) (ci := 1) (na := 1) (As := [.int (nI (q'))]) (c_m_main l D cI cJ h (sS τ 0 (0)) np nt no ni hI0 q' (by omega)) C gX1_of_X1_main rfl (by decide +kernel) rfl ⟨Nat.le_of_ble_eq_true rfl, Nat.le_of_ble_eq_true rfl⟩ rfl rfl rfl (Nat.le_of_ble_eq_true rfl) ⟨Nat.zero_le _, Nat.zero_le _⟩ rfl dX1_of_102 ?_
        refine g_w (wM cI h (sA (sS τ 0 (0)) 15 (mnF τ nt (τ.2 15) q'))) rfl ?_
        refine g_is ((mnM τ nt q')) rfl ?_
        obtain rfl : K = 0 := hK.trans (by simp [tm_of, b_6_1, b_20_2, kq', kv'])
        exact g_iret C hr rfl dX1_of_105 (Nat.zero_le _) (Nat.zero_le _) rfl (by rw [kq', kv']; rfl) (by rw [kq', kv']; rfl)
      by_cases e4 : v' = 4
      ·
        subst e4
        refine g_tableIn (off := 65) 106 C dX1_of_41 (by decide +kernel) (by decide +kernel) (by decide +kernel) (by decide) ?_
        refine g_aload_n 0 C rfl dX1_of_106 rfl ?_
        refine g_get (C0 := RX1) (T := TX1) (N := 22) 0 1 14 (.ref (h 10)) C hin rfl rfl (by decide) (by decide +kernel) rfl dX1_of_107 ?_
        refine g_iload_n 1 C rfl dX1_of_110 rfl ?_
        refine g_ialdN (cA := cI) (n := 8) (a := h 10) (f := τ.2 9) q' 10 0 C rfl rfl (by omega) (by decide) dX1_of_111 ?_
        obtain rfl : K = 0 := hK.trans (by simp [tm_of, b_6_1, b_20_2, kq', kv'])
        exact g_iret C hr rfl dX1_of_112 (Nat.zero_le _) (Nat.zero_le _) rfl (by rw [kq', kv']; rfl) (by rw [kq', kv']; rfl)
      by_cases e5 : v' = 5
      ·
        subst e5
        refine g_tableIn (off := 72) 113 C dX1_of_41 (by decide +kernel) (by decide +kernel) (by decide +kernel) (by decide) ?_
        refine g_aload_n 0 C rfl dX1_of_113 rfl ?_
        refine g_get (C0 := RX1) (T := TX1) (N := 22) 0 1 15 (.ref (h 11)) C hin rfl rfl (by decide) (by decide +kernel) rfl dX1_of_114 ?_
        refine g_iload_n 1 C rfl dX1_of_117 rfl ?_
        refine g_ialdN (cA := cI) (n := 8) (a := h 11) (f := τ.2 10) q' 11 0 C rfl rfl (by omega) (by decide) dX1_of_118 ?_
        obtain rfl : K = 0 := hK.trans (by simp [tm_of, b_6_1, b_20_2, kq', kv'])
        exact g_iret C hr rfl dX1_of_119 (Nat.zero_le _) (Nat.zero_le _) rfl (by rw [kq', kv']; rfl) (by rw [kq', kv']; rfl)
      refine g_tableOut 120 C dX1_of_41 (Or.inr (by rw [nI_toInt (by omega)]; omega)) (by decide) ?_
      refine g_aload_n 0 C rfl dX1_of_120 rfl ?_
      refine g_iload_n 1 C rfl dX1_of_121 rfl ?_
      refine g_iload_n 2 C rfl dX1_of_122 rfl ?_
      refine g_bipush 6 C dX1_of_123 (by decide) ?_
      refine g_isubN v' 6 C (by omega) dX1_of_125 ?_
      refine g_callV0 (C0 := RX1) (T := TX1) (N := 22) (ci := 1) (na := 2) (As := [.int (nI (q')), .int (nI (v' - 6))]) (c_m_look l D cI cJ h (sS τ 0 (0)) np nt no ni hI0 q' (v' - 6) (by omega) (by omega) (hz q' hq')) C gX1_of_X1_look rfl (by decide +kernel) rfl ⟨Nat.le_of_ble_eq_true rfl, Nat.le_of_ble_eq_true rfl⟩ rfl rfl rfl (Nat.le_of_ble_eq_true rfl) ⟨Nat.zero_le _, Nat.zero_le _⟩ rfl dX1_of_126 ?_
      obtain rfl : K = 0 := hK.trans (by simp [tm_of, b_6_1, b_20_2, kq', kv'])
      exact g_iret C hr rfl dX1_of_129 (Nat.zero_le _) (Nat.zero_le _) rfl (by rw [kq', kv', rm_of, if_neg e0, if_neg e1, if_neg e2, if_neg e3, if_neg e4, if_neg e5]; rfl) (by rw [kq', kv', sm_of2, if_neg e2, if_neg e3]; rfl)
    ·
      have b_20_2 : out (v) (0) (8) := Classical.byContradiction (bI_eq c_20_2)
      refine g_iconst 2 C dX1_of_23 (by decide) ?_
      refine g_goto 28 C dX1_of_24 (by decide) ?_
      refine g_put (C0 := RX1) (T := TX1) (N := 22) 0 1 0 (wM cI h (sS τ 0 (2))) C hin tyX1_ok nmX1 rfl rfl (by decide) (by decide +kernel) rfl (by decide +kernel) (Nat.le_of_ble_eq_true rfl) rfl dX1_of_28 ?_
      refine g_aload_n 0 C rfl dX1_of_31 rfl ?_
      refine g_get (C0 := RX1) (T := TX1) (N := 22) 0 1 0 (.int (2)) C hin rfl rfl (by decide) (by decide +kernel) rfl dX1_of_32 ?_
      refine g_if_le 40 C dX1_of_35 (by decide) (fun q => absurd q (by decide)) (fun _ => ?_)
      refine g_iconst 0 C dX1_of_38 (by decide) ?_
      obtain rfl : K = 2 := hK.trans (by simp [tm_of, b_6_1, b_20_2])
      exact g_iret C hr rfl dX1_of_39 (Nat.zero_le _) (Nat.zero_le _) rfl rfl rfl
  ·
    have b_6_1 : bad (q) (nI ni) := Classical.byContradiction (bI_eq c_6_1)
    refine g_iconst 1 C dX1_of_9 (by decide) ?_
    refine g_goto 28 C dX1_of_10 (by decide) ?_
    refine g_put (C0 := RX1) (T := TX1) (N := 22) 0 1 0 (wM cI h (sS τ 0 (1))) C hin tyX1_ok nmX1 rfl rfl (by decide) (by decide +kernel) rfl (by decide +kernel) (Nat.le_of_ble_eq_true rfl) rfl dX1_of_28 ?_
    refine g_aload_n 0 C rfl dX1_of_31 rfl ?_
    refine g_get (C0 := RX1) (T := TX1) (N := 22) 0 1 0 (.int (1)) C hin rfl rfl (by decide) (by decide +kernel) rfl dX1_of_32 ?_
    refine g_if_le 40 C dX1_of_35 (by decide) (fun q => absurd q (by decide)) (fun _ => ?_)
    refine g_iconst 0 C dX1_of_38 (by decide) ?_
    obtain rfl : K = 1 := hK.trans (by simp [tm_of, b_6_1])
    exact g_iret C hr rfl dX1_of_39 (Nat.zero_le _) (Nat.zero_le _) rfl rfl rfl
set_option maxRecDepth 100000 in
set_option maxHeartbeats 4000000 in
theorem c_m_layer (l : Launch) (D : va_G) (cI cJ : ClassId) (h : Nat → Nat) (τ : gS) (np nt no ni : Nat) (hI : iM0 τ np nt no ni) (q k t : Int32) (K : Nat) (hK : K = tm_layer τ nt ni q k t) : MC l yX1_layer wsX1_layer 2 43 D (tyIJ cI cJ) [.ref (h 0), .int (q), .int (k), .int (t)] (wM cI h τ) (wM cI h (mS K τ (sS τ 0 0))) none (some (.int (mR K (τ.2 6 (12 * (12 * cl q + cl k) + cl t))))) 0 := by
  have hI0 := hI
  obtain ⟨⟨hnp, hnp6⟩, ⟨hnt, hnt12⟩, ⟨hno, hno10⟩, ⟨hni, hni8⟩, hPT, hLC, hHS⟩ := hI
  refine MC.ofG (cc := cX1_layer) (maxL := 4) (ret := (some .int)) [(0, .ref (h 0)), (1, .int (q)), (2, .int (k)), (3, .int (t))] (by decide) rfl (Nat.le_of_ble_eq_true rfl) rfl ?_
  intro p e s m args below meth c C hr hout
  have hin : ∀ w ∈ wsX10, w ∈ wsX1_layer := fun w h => by first | exact List.mem_cons_of_mem _ (List.mem_append_right _ h) | exact List.mem_cons_of_mem _ (List.mem_append_left _ (List.mem_append_right _ h)) | exact List.mem_cons_of_mem _ (List.mem_append_left _ (List.mem_append_left _ (List.mem_append_right _ h))) | exact List.mem_cons_of_mem _ (List.mem_append_left _ (List.mem_append_left _ (List.mem_append_left _ (List.mem_append_right _ h)))) | exact List.mem_cons_of_mem _ (List.mem_append_left _ (List.mem_append_left _ (List.mem_append_left _ (List.mem_append_left _ (List.mem_append_right _ h)))))
  refine g_aload_n 0 C rfl dX1_layer_0 rfl ?_
  refine g_aload_n 0 C rfl dX1_layer_1 rfl ?_
  refine g_iload_n 1 C rfl dX1_layer_2 rfl ?_
  refine g_callV0 (C0 := RX1) (T := TX1) (N := 22) (ci := 1) (na := 1) (As := [.int (q)]) (c_m_isPicture l D cI cJ h τ np nt no ni hI0 (q)) C gX1_layer_X1_isPicture rfl (by decide +kernel) rfl ⟨Nat.le_of_ble_eq_true rfl, Nat.le_of_ble_eq_true rfl⟩ rfl rfl rfl (Nat.le_of_ble_eq_true rfl) ⟨Nat.zero_le _, Nat.zero_le _⟩ rfl dX1_layer_3 ?_
  refine g_if_eq 37 C dX1_layer_6 (by decide) (fun c_6_1 => ?_) (fun c_6_1 => ?_)
  ·
    have b_6_1 : bad (q) (nI ni) := Classical.byContradiction (bI_eq c_6_1)
    refine g_iconst 1 C dX1_layer_37 (by decide) ?_
    refine g_put (C0 := RX1) (T := TX1) (N := 22) 0 1 0 (wM cI h (sS τ 0 (1))) C hin tyX1_ok nmX1 rfl rfl (by decide) (by decide +kernel) rfl (by decide +kernel) (Nat.le_of_ble_eq_true rfl) rfl dX1_layer_38 ?_
    refine g_aload_n 0 C rfl dX1_layer_41 rfl ?_
    refine g_get (C0 := RX1) (T := TX1) (N := 22) 0 1 0 (.int (1)) C hin rfl rfl (by decide) (by decide +kernel) rfl dX1_layer_42 ?_
    refine g_if_le 52 C dX1_layer_45 (by decide) (fun q => absurd q (by decide)) (fun _ => ?_)
    refine g_iconst 0 C dX1_layer_48 (by decide) ?_
    refine g_goto 64 C dX1_layer_49 (by decide) ?_
    obtain rfl : K = 1 := hK.trans (by simp [tm_layer, b_6_1])
    exact g_iret C hr rfl dX1_layer_64 (Nat.zero_le _) (Nat.zero_le _) rfl rfl rfl
  ·
    have b_6_1 : ¬ bad (q) (nI ni) := bI_ne c_6_1
    obtain ⟨q', hq', rfl⟩ := nb_of (N := ni) rfl (by omega) b_6_1
    have kq' : cl (nI q') = q' := cl_nI (by omega)
    refine g_iload_n 2 C rfl dX1_layer_9 rfl ?_
    refine g_iconst 0 C dX1_layer_10 (by decide) ?_
    refine g_aload_n 0 C rfl dX1_layer_11 rfl ?_
    refine g_get (C0 := RX1) (T := TX1) (N := 22) 0 1 10 (.ref (h 6)) C hin rfl rfl (by decide) (by decide +kernel) rfl dX1_layer_12 ?_
    refine g_iload_n 1 C rfl dX1_layer_15 rfl ?_
    refine g_ialdN (cA := cI) (n := 8) (a := h 6) (f := τ.2 5) q' 6 0 C rfl rfl (by omega) (by decide) dX1_layer_16 ?_
    obtain ⟨jL, hjL, ejL⟩ := hLC q'
    refine g_is (nI (jL)) ejL ?_
    refine g_iconst 1 C dX1_layer_17 (by decide) ?_
    refine g_isub C dX1_layer_18 ?_
    refine g_callS0 (na := 3) (av := [.int (k), .int (0), .int (nI (jL) - 1)]) (c_m_in l D cI cJ _ (k) (0) ((nI (jL) - 1))) C gX1_layer_X1_in rfl (by decide +kernel) rfl ⟨Nat.le_of_ble_eq_true rfl, Nat.le_of_ble_eq_true rfl⟩ rfl (Nat.le_of_ble_eq_true rfl) ⟨Nat.zero_le _, Nat.zero_le _⟩ rfl dX1_layer_19 ?_
    refine g_if_eq 37 C dX1_layer_22 (by decide) (fun c_22_2 => ?_) (fun c_22_2 => ?_)
    ·
      have b_22_2 : out (k) (0) ((nI (jL) - 1)) := Classical.byContradiction (bI_eq c_22_2)
      have nb_22_2 : bad k (nI jL) := Classical.byContradiction fun z => ((in_bad (by omega)).mpr z) b_22_2
      refine g_iconst 1 C dX1_layer_37 (by decide) ?_
      refine g_put (C0 := RX1) (T := TX1) (N := 22) 0 1 0 (wM cI h (sS τ 0 (1))) C hin tyX1_ok nmX1 rfl rfl (by decide) (by decide +kernel) rfl (by decide +kernel) (Nat.le_of_ble_eq_true rfl) rfl dX1_layer_38 ?_
      refine g_aload_n 0 C rfl dX1_layer_41 rfl ?_
      refine g_get (C0 := RX1) (T := TX1) (N := 22) 0 1 0 (.int (1)) C hin rfl rfl (by decide) (by decide +kernel) rfl dX1_layer_42 ?_
      refine g_if_le 52 C dX1_layer_45 (by decide) (fun q => absurd q (by decide)) (fun _ => ?_)
      refine g_iconst 0 C dX1_layer_48 (by decide) ?_
      refine g_goto 64 C dX1_layer_49 (by decide) ?_
      obtain rfl : K = 1 := hK.trans (by simp [tm_layer, b_6_1, nb_22_2, kq', ejL])
      exact g_iret C hr rfl dX1_layer_64 (Nat.zero_le _) (Nat.zero_le _) rfl rfl rfl
    ·
      have b_22_2 : ¬ out (k) (0) ((nI (jL) - 1)) := bI_ne c_22_2
      have nb_22_2 : ¬ bad k (nI jL) := (in_bad (by omega)).mp b_22_2
      refine g_aload_n 0 C rfl dX1_layer_25 rfl ?_
      refine g_iload_n 3 C rfl dX1_layer_26 rfl ?_
      refine g_callV0 (C0 := RX1) (T := TX1) (N := 22) (ci := 1) (na := 1) (As := [.int (t)]) (c_m_isTube l D cI cJ h τ np nt no ni hI0 (t)) C gX1_layer_X1_isTube rfl (by decide +kernel) rfl ⟨Nat.le_of_ble_eq_true rfl, Nat.le_of_ble_eq_true rfl⟩ rfl rfl rfl (Nat.le_of_ble_eq_true rfl) ⟨Nat.zero_le _, Nat.zero_le _⟩ rfl dX1_layer_27 ?_
      refine g_if_eq 37 C dX1_layer_30 (by decide) (fun c_30_3 => ?_) (fun c_30_3 => ?_)
      ·
        have b_30_3 : bad (t) (nI nt) := Classical.byContradiction (bI_eq c_30_3)
        refine g_iconst 1 C dX1_layer_37 (by decide) ?_
        refine g_put (C0 := RX1) (T := TX1) (N := 22) 0 1 0 (wM cI h (sS τ 0 (1))) C hin tyX1_ok nmX1 rfl rfl (by decide) (by decide +kernel) rfl (by decide +kernel) (Nat.le_of_ble_eq_true rfl) rfl dX1_layer_38 ?_
        refine g_aload_n 0 C rfl dX1_layer_41 rfl ?_
        refine g_get (C0 := RX1) (T := TX1) (N := 22) 0 1 0 (.int (1)) C hin rfl rfl (by decide) (by decide +kernel) rfl dX1_layer_42 ?_
        refine g_if_le 52 C dX1_layer_45 (by decide) (fun q => absurd q (by decide)) (fun _ => ?_)
        refine g_iconst 0 C dX1_layer_48 (by decide) ?_
        refine g_goto 64 C dX1_layer_49 (by decide) ?_
        obtain rfl : K = 1 := hK.trans (by simp [tm_layer, b_6_1, nb_22_2, b_30_3, kq', ejL])
        exact g_iret C hr rfl dX1_layer_64 (Nat.zero_le _) (Nat.zero_le _) rfl rfl rfl
      ·
        have b_30_3 : ¬ bad (t) (nI nt) := bI_ne c_30_3
        refine g_iconst 0 C dX1_layer_33 (by decide) ?_
        refine g_goto 38 C dX1_layer_34 (by decide) ?_
        refine g_put (C0 := RX1) (T := TX1) (N := 22) 0 1 0 (wM cI h (sS τ 0 (0))) C hin tyX1_ok nmX1 rfl rfl (by decide) (by decide +kernel) rfl (by decide +kernel) (Nat.le_of_ble_eq_true rfl) rfl dX1_layer_38 ?_
        refine g_aload_n 0 C rfl dX1_layer_41 rfl ?_
        refine g_get (C0 := RX1) (T := TX1) (N := 22) 0 1 0 (.int (0)) C hin rfl rfl (by decide) (by decide +kernel) rfl dX1_layer_42 ?_
        refine g_if_le 52 C dX1_layer_45 (by decide) (fun _ => ?_) (fun q => absurd q (by decide))
        obtain ⟨k', hk', rfl⟩ := nb_of (N := jL) rfl (by omega) nb_22_2
        have kk' : cl (nI k') = k' := cl_nI (by omega)
        obtain ⟨t', ht', rfl⟩ := nb_of (N := nt) rfl (by omega) b_30_3
        have kt' : cl (nI t') = t' := cl_nI (by omega)
        refine g_aload_n 0 C rfl dX1_layer_52 rfl ?_
        refine g_get (C0 := RX1) (T := TX1) (N := 22) 0 1 11 (.ref (h 7)) C hin rfl rfl (by decide) (by decide +kernel) rfl dX1_layer_53 ?_
        refine g_iload_n 1 C rfl dX1_layer_56 rfl ?_
        refine g_iload_n 2 C rfl dX1_layer_57 rfl ?_
        refine g_callS0 (na := 2) (av := [.int (nI (q')), .int (nI (k'))]) (c_m_layerAt l D cI cJ _ q' k') C gX1_layer_X1_layerAt rfl (by decide +kernel) rfl ⟨Nat.le_of_ble_eq_true rfl, Nat.le_of_ble_eq_true rfl⟩ rfl (Nat.le_of_ble_eq_true rfl) ⟨Nat.zero_le _, Nat.zero_le _⟩ rfl dX1_layer_58 ?_
        refine g_iload_n 3 C rfl dX1_layer_61 rfl ?_
        refine g_iaddN (12 * (12 * q' + k')) t' C dX1_layer_62 ?_
        refine g_ialdN (cA := cI) (n := 1152) (a := h 7) (f := τ.2 6) ((12 * (12 * q' + k')) + t') 7 0 C rfl rfl (by omega) (by decide) dX1_layer_63 ?_
        obtain rfl : K = 0 := hK.trans (by simp [tm_layer, b_6_1, nb_22_2, b_30_3, kq', ejL, kk', kt'])
        exact g_iret C hr rfl dX1_layer_64 (Nat.zero_le _) (Nat.zero_le _) rfl (by rw [kq', kk', kt']; rfl) rfl
set_option maxRecDepth 100000 in
set_option maxHeartbeats 4000000 in
theorem c_m_where (l : Launch) (D : va_G) (cI cJ : ClassId) (h : Nat → Nat) (τ : gS) (np nt no ni : Nat) (hI : iM0 τ np nt no ni) (t v : Int32) (K : Nat) (hK : K = tm_where nt t v) : MC l yX1_where wsX1_where 2 43 D (tyIJ cI cJ) [.ref (h 0), .int (t), .int (v)] (wM cI h τ) (wM cI h (mS K τ (sS τ 0 0))) none (some (.int (mR K (rm_where τ no (cl t) (cl v))))) 0 := by
  have hI0 := hI
  obtain ⟨⟨hnp, hnp6⟩, ⟨hnt, hnt12⟩, ⟨hno, hno10⟩, ⟨hni, hni8⟩, hPT, hLC, hHS⟩ := hI
  refine MC.ofG (cc := cX1_where) (maxL := 3) (ret := (some .int)) [(0, .ref (h 0)), (1, .int (t)), (2, .int (v))] (by decide) rfl (Nat.le_of_ble_eq_true rfl) rfl ?_
  intro p e s m args below meth c C hr hout
  have hin : ∀ w ∈ wsX10, w ∈ wsX1_where := fun w h => by first | exact List.mem_cons_of_mem _ (List.mem_append_right _ h) | exact List.mem_cons_of_mem _ (List.mem_append_left _ (List.mem_append_right _ h)) | exact List.mem_cons_of_mem _ (List.mem_append_left _ (List.mem_append_left _ (List.mem_append_right _ h))) | exact List.mem_cons_of_mem _ (List.mem_append_left _ (List.mem_append_left _ (List.mem_append_left _ (List.mem_append_right _ h)))) | exact List.mem_cons_of_mem _ (List.mem_append_left _ (List.mem_append_left _ (List.mem_append_left _ (List.mem_append_left _ (List.mem_append_right _ h)))))
  refine g_aload_n 0 C rfl dX1_where_0 rfl ?_
  refine g_aload_n 0 C rfl dX1_where_1 rfl ?_
  refine g_iload_n 1 C rfl dX1_where_2 rfl ?_
  refine g_callV0 (C0 := RX1) (T := TX1) (N := 22) (ci := 1) (na := 1) (As := [.int (t)]) (c_m_isTube l D cI cJ h τ np nt no ni hI0 (t)) C gX1_where_X1_isTube rfl (by decide +kernel) rfl ⟨Nat.le_of_ble_eq_true rfl, Nat.le_of_ble_eq_true rfl⟩ rfl rfl rfl (Nat.le_of_ble_eq_true rfl) ⟨Nat.zero_le _, Nat.zero_le _⟩ rfl dX1_where_3 ?_
  refine g_if_ne 13 C dX1_where_6 (by decide) (fun c_6_1 => ?_) (fun c_6_1 => ?_)
  ·
    have b_6_1 : ¬ bad (t) (nI nt) := bI_ne c_6_1
    refine g_iload_n 2 C rfl dX1_where_13 rfl ?_
    refine g_iconst 0 C dX1_where_14 (by decide) ?_
    refine g_iconst 3 C dX1_where_15 (by decide) ?_
    refine g_callS0 (na := 3) (av := [.int (v), .int (0), .int (3)]) (c_m_in l D cI cJ _ (v) (0) (3)) C gX1_where_X1_in rfl (by decide +kernel) rfl ⟨Nat.le_of_ble_eq_true rfl, Nat.le_of_ble_eq_true rfl⟩ rfl (Nat.le_of_ble_eq_true rfl) ⟨Nat.zero_le _, Nat.zero_le _⟩ rfl dX1_where_16 ?_
    refine g_if_ne 26 C dX1_where_19 (by decide) (fun c_19_2 => ?_) (fun c_19_2 => ?_)
    ·
      have b_19_2 : ¬ out (v) (0) (3) := bI_ne c_19_2
      refine g_iconst 0 C dX1_where_26 (by decide) ?_
      refine g_put (C0 := RX1) (T := TX1) (N := 22) 0 1 0 (wM cI h (sS τ 0 (0))) C hin tyX1_ok nmX1 rfl rfl (by decide) (by decide +kernel) rfl (by decide +kernel) (Nat.le_of_ble_eq_true rfl) rfl dX1_where_27 ?_
      refine g_aload_n 0 C rfl dX1_where_30 rfl ?_
      refine g_get (C0 := RX1) (T := TX1) (N := 22) 0 1 0 (.int (0)) C hin rfl rfl (by decide) (by decide +kernel) rfl dX1_where_31 ?_
      refine g_if_le 39 C dX1_where_34 (by decide) (fun _ => ?_) (fun q => absurd q (by decide))
      obtain ⟨t', ht', rfl⟩ := nb_of (N := nt) rfl (by omega) b_6_1
      have kt' : cl (nI t') = t' := cl_nI (by omega)
      obtain ⟨v', hv', rfl⟩ := out_nat (M := 3) rfl (by decide) b_19_2
      have kv' : cl (nI v') = v' := cl_nI (by omega)
      refine g_iload_n 2 C rfl dX1_where_39 rfl ?_
      refine g_if_ne 52 C dX1_where_40 (by decide) (fun c_40_3 => ?_) (fun c_40_3 => ?_)
      ·
        have d_40_3 : ¬ v' = 0 := fun zz => c_40_3 ((nI_eq (a := v') (b := 0) (by omega) (by omega)).mpr zz)
        refine g_iload_n 2 C rfl dX1_where_52 rfl ?_
        refine g_iconst 1 C dX1_where_53 (by decide) ?_
        refine g_icmp_ne 65 C dX1_where_54 (by decide) (fun c_54_4 => ?_) (fun c_54_4 => ?_)
        ·
          have d_54_4 : ¬ v' = 1 := fun zz => c_54_4 ((nI_eq (a := v') (b := 1) (by omega) (by omega)).mpr zz)
          refine g_iload_n 2 C rfl dX1_where_65 rfl ?_
          refine g_iconst 2 C dX1_where_66 (by decide) ?_
          refine g_icmp_ne 78 C dX1_where_67 (by decide) (fun c_67_5 => ?_) (fun c_67_5 => ?_)
          ·
            have d_67_5 : ¬ v' = 2 := fun zz => c_67_5 ((nI_eq (a := v') (b := 2) (by omega) (by omega)).mpr zz)
            refine g_aload_n 0 C rfl dX1_where_78 rfl ?_
            refine g_get (C0 := RX1) (T := TX1) (N := 22) 0 1 6 (.ref (h 4)) C hin rfl rfl (by decide) (by decide +kernel) rfl dX1_where_79 ?_
            refine g_iload_n 1 C rfl dX1_where_82 rfl ?_
            refine g_ialdN (cA := cI) (n := 12) (a := h 4) (f := τ.2 3) t' 4 0 C rfl rfl (by omega) (by decide) dX1_where_83 ?_
            obtain rfl : K = 0 := hK.trans (by simp [tm_where, b_6_1, b_19_2, c_40_3, c_54_4, c_67_5, kt', kv'])
            exact g_iret C hr rfl dX1_where_84 (Nat.zero_le _) (Nat.zero_le _) rfl (by rw [kt', kv', rm_where, if_neg d_40_3, if_neg d_54_4, if_neg d_67_5]; rfl) rfl
          ·
            have d_67_5 : v' = 2 := (nI_eq (a := v') (b := 2) (by omega) (by omega)).mp c_67_5
            refine g_aload_n 0 C rfl dX1_where_70 rfl ?_
            refine g_iload_n 1 C rfl dX1_where_71 rfl ?_
            refine g_callV0 (C0 := RX1) (T := TX1) (N := 22) (ci := 1) (na := 1) (As := [.int (nI (t'))]) (c_m_onPictures l D cI cJ h (sS τ 0 (0)) np nt no ni hI0 t' (by omega)) C gX1_where_X1_onPictures rfl (by decide +kernel) rfl ⟨Nat.le_of_ble_eq_true rfl, Nat.le_of_ble_eq_true rfl⟩ rfl rfl rfl (Nat.le_of_ble_eq_true rfl) ⟨Nat.zero_le _, Nat.zero_le _⟩ rfl dX1_where_72 ?_
            refine g_goto 84 C dX1_where_75 (by decide) ?_
            obtain rfl : K = 0 := hK.trans (by simp [tm_where, b_6_1, b_19_2, c_40_3, c_54_4, c_67_5, kt', kv'])
            exact g_iret C hr rfl dX1_where_84 (Nat.zero_le _) (Nat.zero_le _) rfl (by rw [kt', kv', rm_where, if_neg d_40_3, if_neg d_54_4, if_pos d_67_5]; rfl) rfl
        ·
          have d_54_4 : v' = 1 := (nI_eq (a := v') (b := 1) (by omega) (by omega)).mp c_54_4
          refine g_aload_n 0 C rfl dX1_where_57 rfl ?_
          refine g_iload_n 1 C rfl dX1_where_58 rfl ?_
          refine g_callV0 (C0 := RX1) (T := TX1) (N := 22) (ci := 1) (na := 1) (As := [.int (nI (t'))]) (c_m_inPots l D cI cJ h (sS τ 0 (0)) np nt no ni hI0 t' (by omega)) C gX1_where_X1_inPots rfl (by decide +kernel) rfl ⟨Nat.le_of_ble_eq_true rfl, Nat.le_of_ble_eq_true rfl⟩ rfl rfl rfl (Nat.le_of_ble_eq_true rfl) ⟨Nat.zero_le _, Nat.zero_le _⟩ rfl dX1_where_59 ?_
          refine g_goto 84 C dX1_where_62 (by decide) ?_
          obtain rfl : K = 0 := hK.trans (by simp [tm_where, b_6_1, b_19_2, c_40_3, c_54_4, kt', kv'])
          exact g_iret C hr rfl dX1_where_84 (Nat.zero_le _) (Nat.zero_le _) rfl (by rw [kt', kv', rm_where, if_neg d_40_3, if_pos d_54_4]; rfl) rfl
      ·
        have d_40_3 : v' = 0 := (nI_eq (a := v') (b := 0) (by omega) (by omega)).mp c_40_3
        refine g_aload_n 0 C rfl dX1_where_43 rfl ?_
        refine g_get (C0 := RX1) (T := TX1) (N := 22) 0 1 5 (.ref (h 3)) C hin rfl rfl (by decide) (by decide +kernel) rfl dX1_where_44 ?_
        refine g_iload_n 1 C rfl dX1_where_47 rfl ?_
        refine g_ialdN (cA := cI) (n := 12) (a := h 3) (f := τ.2 2) t' 3 0 C rfl rfl (by omega) (by decide) dX1_where_48 ?_
        refine g_goto 84 C dX1_where_49 (by decide) ?_
        obtain rfl : K = 0 := hK.trans (by simp [tm_where, b_6_1, b_19_2, c_40_3, kt', kv'])
        exact g_iret C hr rfl dX1_where_84 (Nat.zero_le _) (Nat.zero_le _) rfl (by rw [kt', kv', rm_where, if_pos d_40_3]; rfl) rfl
    ·
      have b_19_2 : out (v) (0) (3) := Classical.byContradiction (bI_eq c_19_2)
      refine g_iconst 2 C dX1_where_22 (by decide) ?_
      refine g_goto 27 C dX1_where_23 (by decide) ?_
      refine g_put (C0 := RX1) (T := TX1) (N := 22) 0 1 0 (wM cI h (sS τ 0 (2))) C hin tyX1_ok nmX1 rfl rfl (by decide) (by decide +kernel) rfl (by decide +kernel) (Nat.le_of_ble_eq_true rfl) rfl dX1_where_27 ?_
      refine g_aload_n 0 C rfl dX1_where_30 rfl ?_
      refine g_get (C0 := RX1) (T := TX1) (N := 22) 0 1 0 (.int (2)) C hin rfl rfl (by decide) (by decide +kernel) rfl dX1_where_31 ?_
      refine g_if_le 39 C dX1_where_34 (by decide) (fun q => absurd q (by decide)) (fun _ => ?_)
      refine g_iconst 0 C dX1_where_37 (by decide) ?_
      obtain rfl : K = 2 := hK.trans (by simp [tm_where, b_6_1, b_19_2])
      exact g_iret C hr rfl dX1_where_38 (Nat.zero_le _) (Nat.zero_le _) rfl rfl rfl
  ·
    have b_6_1 : bad (t) (nI nt) := Classical.byContradiction (bI_eq c_6_1)
    refine g_iconst 1 C dX1_where_9 (by decide) ?_
    refine g_goto 27 C dX1_where_10 (by decide) ?_
    refine g_put (C0 := RX1) (T := TX1) (N := 22) 0 1 0 (wM cI h (sS τ 0 (1))) C hin tyX1_ok nmX1 rfl rfl (by decide) (by decide +kernel) rfl (by decide +kernel) (Nat.le_of_ble_eq_true rfl) rfl dX1_where_27 ?_
    refine g_aload_n 0 C rfl dX1_where_30 rfl ?_
    refine g_get (C0 := RX1) (T := TX1) (N := 22) 0 1 0 (.int (1)) C hin rfl rfl (by decide) (by decide +kernel) rfl dX1_where_31 ?_
    refine g_if_le 39 C dX1_where_34 (by decide) (fun q => absurd q (by decide)) (fun _ => ?_)
    refine g_iconst 0 C dX1_where_37 (by decide) ?_
    obtain rfl : K = 1 := hK.trans (by simp [tm_where, b_6_1])
    exact g_iret C hr rfl dX1_where_38 (Nat.zero_le _) (Nat.zero_le _) rfl rfl rfl
set_option maxRecDepth 100000 in
set_option maxHeartbeats 4000000 in
theorem c_m_recipe (l : Launch) (D : va_G) (cI cJ : ClassId) (h : Nat → Nat) (τ : gS) (np nt no ni : Nat) (hI : iM0 τ np nt no ni) (r g b : Int32) (K : Nat) (hK : K = tm_recipe r g b) : MC l yX1_recipe wsX1_recipe 2 44 D (tyIJ cI cJ) [.ref (h 0), .int (r), .int (g), .int (b)] (wM cI h τ) (wM cI h (mS K τ (sS τ 0 0))) none (some (.int (mR K ((rAM τ r g b nt nt).1)))) 0 := by
  have hI0 := hI
  obtain ⟨⟨hnp, hnp6⟩, ⟨hnt, hnt12⟩, ⟨hno, hno10⟩, ⟨hni, hni8⟩, hPT, hLC, hHS⟩ := hI
  refine MC.ofG (cc := cX1_recipe) (maxL := 10) (ret := (some .int)) [(0, .ref (h 0)), (1, .int (r)), (2, .int (g)), (3, .int (b))] (by decide) rfl (Nat.le_of_ble_eq_true rfl) rfl ?_
  intro p e s m args below meth c C hr hout
  have hin : ∀ w ∈ wsX10, w ∈ wsX1_recipe := fun w h => by first | exact List.mem_cons_of_mem _ (List.mem_append_right _ h) | exact List.mem_cons_of_mem _ (List.mem_append_left _ (List.mem_append_right _ h)) | exact List.mem_cons_of_mem _ (List.mem_append_left _ (List.mem_append_left _ (List.mem_append_right _ h))) | exact List.mem_cons_of_mem _ (List.mem_append_left _ (List.mem_append_left _ (List.mem_append_left _ (List.mem_append_right _ h)))) | exact List.mem_cons_of_mem _ (List.mem_append_left _ (List.mem_append_left _ (List.mem_append_left _ (List.mem_append_left _ (List.mem_append_right _ h)))))
  refine g_aload_n 0 C rfl dX1_recipe_0 rfl ?_
  refine g_iload_n 1 C rfl dX1_recipe_1 rfl ?_
  refine g_iload_n 2 C rfl dX1_recipe_2 rfl ?_
  refine g_iload_n 3 C rfl dX1_recipe_3 rfl ?_
  refine g_callS0 (na := 3) (av := [.int (r), .int (g), .int (b)]) (c_m_areShades l D cI cJ _ (r) (g) (b)) C gX1_recipe_X1_areShades rfl (by decide +kernel) rfl ⟨Nat.le_of_ble_eq_true rfl, Nat.le_of_ble_eq_true rfl⟩ rfl (Nat.le_of_ble_eq_true rfl) ⟨Nat.zero_le _, Nat.zero_le _⟩ rfl dX1_recipe_4 ?_
  refine g_if_eq 14 C dX1_recipe_7 (by decide) (fun c_7_1 => ?_) (fun c_7_1 => ?_)
  ·
    have b_7_1 : (out (r) 0 255 ∨ out (g) 0 255 ∨ out (b) 0 255) := Classical.byContradiction (bI_eq c_7_1)
    refine g_iconst 1 C dX1_recipe_14 (by decide) ?_
    refine g_put (C0 := RX1) (T := TX1) (N := 22) 0 1 0 (wM cI h (sS τ 0 (1))) C hin tyX1_ok nmX1 rfl rfl (by decide) (by decide +kernel) rfl (by decide +kernel) (Nat.le_of_ble_eq_true rfl) rfl dX1_recipe_15 ?_
    refine g_iconst (-1) C dX1_recipe_18 (by decide) ?_
    refine g_istore [(4, .int ((-1))), (0, .ref (h 0)), (1, .int (r)), (2, .int (g)), (3, .int (b))] C dX1_recipe_19 (by decide) rfl ?_
    refine g_iconst 0 C dX1_recipe_21 (by decide) ?_
    refine g_istore [(5, .int (0)), (4, .int ((-1))), (0, .ref (h 0)), (1, .int (r)), (2, .int (g)), (3, .int (b))] C dX1_recipe_22 (by decide) rfl ?_
    refine g_iconst 0 C dX1_recipe_24 (by decide) ?_
    refine g_istore [(6, .int (0)), (5, .int (0)), (4, .int ((-1))), (0, .ref (h 0)), (1, .int (r)), (2, .int (g)), (3, .int (b))] C dX1_recipe_25 (by decide) rfl ?_
    refine g_iload 0 C rfl dX1_recipe_27 ?_
    refine g_aload_n 3 C rfl dX1_recipe_29 rfl ?_
    refine g_get (C0 := RX1) (T := TX1) (N := 22) 0 1 3 (.int (τ.1 2)) C hin rfl rfl (by decide) (by decide +kernel) rfl dX1_recipe_30 ?_
    refine g_is (nI nt) hnt ?_
    refine g_icmp_ge 177 C dX1_recipe_33 (by decide) (fun c_33_2 => ?_) (fun c_33_2 => ?_)
    ·
      have d_33_2 : nt ≤ 0 := (nI_leI (a := nt) (b := 0) (by omega) (by omega)).mp c_33_2
      refine g_aload_n 3 C rfl dX1_recipe_177 rfl ?_
      refine g_get (C0 := RX1) (T := TX1) (N := 22) 0 1 0 (.int (1)) C hin rfl rfl (by decide) (by decide +kernel) rfl dX1_recipe_178 ?_
      refine g_if_le 188 C dX1_recipe_181 (by decide) (fun q => absurd q (by decide)) (fun _ => ?_)
      refine g_iconst 0 C dX1_recipe_184 (by decide) ?_
      refine g_goto 190 C dX1_recipe_185 (by decide) ?_
      obtain rfl : K = 1 := hK.trans (by simp only [tm_recipe, b_7_1, if_true, if_false])
      exact g_iret C hr rfl dX1_recipe_190 (Nat.zero_le _) (Nat.zero_le _) rfl rfl rfl
    ·
      have d_33_2 : ¬ nt ≤ 0 := fun zz => c_33_2 ((nI_leI (a := nt) (b := 0) (by omega) (by omega)).mpr zz)
      refine g_aload_n 3 C rfl dX1_recipe_36 rfl ?_
      refine g_get (C0 := RX1) (T := TX1) (N := 22) 0 1 0 (.int (1)) C hin rfl rfl (by decide) (by decide +kernel) rfl dX1_recipe_37 ?_
      refine g_if_ne 177 C dX1_recipe_40 (by decide) (fun _ => ?_) (fun q => absurd q (by decide))
      refine g_aload_n 3 C rfl dX1_recipe_177 rfl ?_
      refine g_get (C0 := RX1) (T := TX1) (N := 22) 0 1 0 (.int (1)) C hin rfl rfl (by decide) (by decide +kernel) rfl dX1_recipe_178 ?_
      refine g_if_le 188 C dX1_recipe_181 (by decide) (fun q => absurd q (by decide)) (fun _ => ?_)
      refine g_iconst 0 C dX1_recipe_184 (by decide) ?_
      refine g_goto 190 C dX1_recipe_185 (by decide) ?_
      obtain rfl : K = 1 := hK.trans (by simp only [tm_recipe, b_7_1, if_true, if_false])
      exact g_iret C hr rfl dX1_recipe_190 (Nat.zero_le _) (Nat.zero_le _) rfl rfl rfl
  ·
    have b_7_1 : ¬ (out (r) 0 255 ∨ out (g) 0 255 ∨ out (b) 0 255) := bI_ne c_7_1
    refine g_iconst 0 C dX1_recipe_10 (by decide) ?_
    refine g_goto 15 C dX1_recipe_11 (by decide) ?_
    refine g_put (C0 := RX1) (T := TX1) (N := 22) 0 1 0 (wM cI h (sS τ 0 (0))) C hin tyX1_ok nmX1 rfl rfl (by decide) (by decide +kernel) rfl (by decide +kernel) (Nat.le_of_ble_eq_true rfl) rfl dX1_recipe_15 ?_
    refine g_iconst (-1) C dX1_recipe_18 (by decide) ?_
    refine g_istore [(4, .int ((-1))), (0, .ref (h 0)), (1, .int (r)), (2, .int (g)), (3, .int (b))] C dX1_recipe_19 (by decide) rfl ?_
    refine g_iconst 0 C dX1_recipe_21 (by decide) ?_
    refine g_istore [(5, .int (0)), (4, .int ((-1))), (0, .ref (h 0)), (1, .int (r)), (2, .int (g)), (3, .int (b))] C dX1_recipe_22 (by decide) rfl ?_
    refine g_iconst 0 C dX1_recipe_24 (by decide) ?_
    refine g_istore [(6, .int (0)), (5, .int (0)), (4, .int ((-1))), (0, .ref (h 0)), (1, .int (r)), (2, .int (g)), (3, .int (b))] C dX1_recipe_25 (by decide) rfl ?_
    have loop_27 : ∀ (fu : Nat) (i : Nat), i ≤ nt → nt + 1 ≤ i + fu → G p l e ({ frames := 2, cells := 0, slots := 6 * 0, locals := 44 } : Room) s m args below meth c D (va_A (wM cI h τ) s.heap.size) 10 0 0 (gQ below D (wM cI h τ) (wM cI h (mS K τ (sS τ 0 0))) none (some (.int (mR K ((rAM τ r g b nt nt).1)))) 0 args s) (wM cI h (sS τ 0 (0))) [(0, .ref (h 0)), (1, .int (r)), (2, .int (g)), (3, .int (b)), (4, .int ((rAM τ r g b nt i).1)), (5, .int ((rAM τ r g b nt i).2)), (6, .int (nI (i)))] 27 [] := by
      intro fu
      induction fu with
      | zero => intro i hi hf; exact absurd True.intro (by omega)
      | succ fu ih_27 =>
        intro i hi hf
        refine g_iload 6 C rfl dX1_recipe_27 ?_
        refine g_aload_n 0 C rfl dX1_recipe_29 rfl ?_
        refine g_get (C0 := RX1) (T := TX1) (N := 22) 0 1 3 (.int (τ.1 2)) C hin rfl rfl (by decide) (by decide +kernel) rfl dX1_recipe_30 ?_
        refine g_is (nI nt) hnt ?_
        refine g_icmp_ge 177 C dX1_recipe_33 (by decide) (fun c_33_3 => ?_) (fun c_33_3 => ?_)
        ·
          have d_33_3 : nt ≤ i := (nI_leI (a := nt) (b := i) (by omega) (by omega)).mp c_33_3
          refine g_aload_n 0 C rfl dX1_recipe_177 rfl ?_
          refine g_get (C0 := RX1) (T := TX1) (N := 22) 0 1 0 (.int (0)) C hin rfl rfl (by decide) (by decide +kernel) rfl dX1_recipe_178 ?_
          refine g_if_le 188 C dX1_recipe_181 (by decide) (fun _ => ?_) (fun q => absurd q (by decide))
          refine g_iload 4 C rfl dX1_recipe_188 ?_
          obtain rfl : K = 0 := hK.trans (by simp only [tm_recipe, b_7_1, if_true, if_false])
          exact g_iret C hr rfl dX1_recipe_190 (Nat.zero_le _) (Nat.zero_le _) rfl (by rw [show nt = i by omega]; rfl) rfl
        ·
          have d_33_3 : ¬ nt ≤ i := fun zz => c_33_3 ((nI_leI (a := nt) (b := i) (by omega) (by omega)).mpr zz)
          refine g_aload_n 0 C rfl dX1_recipe_36 rfl ?_
          refine g_get (C0 := RX1) (T := TX1) (N := 22) 0 1 0 (.int (0)) C hin rfl rfl (by decide) (by decide +kernel) rfl dX1_recipe_37 ?_
          refine g_if_ne 177 C dX1_recipe_40 (by decide) (fun q => absurd q (by decide)) (fun _ => ?_)
          refine g_iload 6 C rfl dX1_recipe_43 ?_
          refine g_istore [(7, .int (nI (i))), (0, .ref (h 0)), (1, .int (r)), (2, .int (g)), (3, .int (b)), (4, .int ((rAM τ r g b nt i).1)), (5, .int ((rAM τ r g b nt i).2)), (6, .int (nI (i)))] C dX1_recipe_45 (by decide) rfl ?_
          have loop_47 : ∀ (fu : Nat) (k : Nat), i + k ≤ nt → nt + 1 ≤ i + k + fu → G p l e ({ frames := 2, cells := 0, slots := 6 * 0, locals := 44 } : Room) s m args below meth c D (va_A (wM cI h τ) s.heap.size) 10 0 0 (gQ below D (wM cI h τ) (wM cI h (mS K τ (sS τ 0 0))) none (some (.int (mR K ((rAM τ r g b nt nt).1)))) 0 args s) (wM cI h (sS τ 0 (0))) [(0, .ref (h 0)), (1, .int (r)), (2, .int (g)), (3, .int (b)), (4, .int ((rBM τ r g b i (rAM τ r g b nt i) k).1)), (5, .int ((rBM τ r g b i (rAM τ r g b nt i) k).2)), (6, .int (nI (i))), (7, .int (nI (i + k)))] 47 [] := by
            intro fu
            induction fu with
            | zero => intro k hk hf2; exact absurd True.intro (by omega)
            | succ fu ih_47 =>
              intro k hk hf2
              refine g_iload 7 C rfl dX1_recipe_47 ?_
              refine g_aload_n 0 C rfl dX1_recipe_49 rfl ?_
              refine g_get (C0 := RX1) (T := TX1) (N := 22) 0 1 3 (.int (τ.1 2)) C hin rfl rfl (by decide) (by decide +kernel) rfl dX1_recipe_50 ?_
              refine g_is (nI nt) hnt ?_
              refine g_icmp_ge 171 C dX1_recipe_53 (by decide) (fun c_53_4 => ?_) (fun c_53_4 => ?_)
              ·
                have d_53_4 : nt ≤ (i + k) := (nI_leI (a := nt) (b := (i + k)) (by omega) (by omega)).mp c_53_4
                have ea : rAM τ r g b nt (i + 1) = rBM τ r g b i (rAM τ r g b nt i) k := by rw [rAM, show nt - i = k by omega]
                refine g_iincN 6 i 1 [(6, .int (nI (i + 1))), (0, .ref (h 0)), (1, .int (r)), (2, .int (g)), (3, .int (b)), (4, .int ((rBM τ r g b i (rAM τ r g b nt i) k).1)), (5, .int ((rBM τ r g b i (rAM τ r g b nt i) k).2)), (7, .int (nI (i + k)))] C dX1_recipe_171 rfl (by decide) (by decide) rfl ?_
                refine g_goto 27 C dX1_recipe_174 (by decide) ?_
                refine g_lv [1, 2, 3, 4, 5, 6, 0] [(0, .ref (h 0)), (1, .int (r)), (2, .int (g)), (3, .int (b)), (4, .int ((rBM τ r g b i (rAM τ r g b nt i) k).1)), (5, .int ((rBM τ r g b i (rAM τ r g b nt i) k).2)), (6, .int (nI (i + 1)))] rfl ?_
                have hx := ih_27 (i + 1) (by omega) (by omega)
                rw [ea] at hx
                exact hx
              ·
                have d_53_4 : ¬ nt ≤ (i + k) := fun zz => c_53_4 ((nI_leI (a := nt) (b := (i + k)) (by omega) (by omega)).mpr zz)
                refine g_iconst 0 C dX1_recipe_56 (by decide) ?_
                refine g_istore [(8, .int (0)), (0, .ref (h 0)), (1, .int (r)), (2, .int (g)), (3, .int (b)), (4, .int ((rBM τ r g b i (rAM τ r g b nt i) k).1)), (5, .int ((rBM τ r g b i (rAM τ r g b nt i) k).2)), (6, .int (nI (i))), (7, .int (nI (i + k)))] C dX1_recipe_57 (by decide) rfl ?_
                have loop_59 : ∀ (fu : Nat) (q : Nat), q ≤ 5 → 6 ≤ q + fu → q = 0 ∨ ¬ (τ.2 2 i ≤ 0 ∨ τ.2 2 (i + k) ≤ 0) → G p l e ({ frames := 2, cells := 0, slots := 6 * 0, locals := 44 } : Room) s m args below meth c D (va_A (wM cI h τ) s.heap.size) 10 0 0 (gQ below D (wM cI h τ) (wM cI h (mS K τ (sS τ 0 0))) none (some (.int (mR K ((rAM τ r g b nt nt).1)))) 0 args s) (wM cI h (sS τ 0 (0))) [(0, .ref (h 0)), (1, .int (r)), (2, .int (g)), (3, .int (b)), (4, .int ((rPM τ r g b i (i + k) (rBM τ r g b i (rAM τ r g b nt i) k) q).1)), (5, .int ((rPM τ r g b i (i + k) (rBM τ r g b i (rAM τ r g b nt i) k) q).2)), (6, .int (nI (i))), (7, .int (nI (i + k))), (8, .int (nI (q)))] 59 [] := by
                  intro fu
                  induction fu with
                  | zero => intro q hq hf3 hq0; exact absurd True.intro (by omega)
                  | succ fu ih_59 =>
                    intro q hq hf3 hq0
                    refine g_iload 8 C rfl dX1_recipe_59 ?_
                    refine g_iconst 5 C dX1_recipe_61 (by decide) ?_
                    refine g_icmp_ge 165 C dX1_recipe_62 (by decide) (fun c_62_5 => ?_) (fun c_62_5 => ?_)
                    ·
                      have d_62_5 : 5 ≤ q := (nI_leI (a := 5) (b := q) (by omega) (by omega)).mp c_62_5
                      have eb : rBM τ r g b i (rAM τ r g b nt i) (k + 1) = rPM τ r g b i (i + k) (rBM τ r g b i (rAM τ r g b nt i) k) q := (if_neg (hq0.resolve_left (by omega))).trans (by rw [show q = 5 by omega])
                      refine g_iincN 7 (i + k) 1 [(7, .int (nI ((i + k) + 1))), (0, .ref (h 0)), (1, .int (r)), (2, .int (g)), (3, .int (b)), (4, .int ((rPM τ r g b i (i + k) (rBM τ r g b i (rAM τ r g b nt i) k) q).1)), (5, .int ((rPM τ r g b i (i + k) (rBM τ r g b i (rAM τ r g b nt i) k) q).2)), (6, .int (nI (i))), (8, .int (nI (q)))] C dX1_recipe_165 rfl (by decide) (by decide) rfl ?_
                      refine g_goto 47 C dX1_recipe_168 (by decide) ?_
                      refine g_lv [1, 2, 3, 4, 5, 6, 7, 0] [(0, .ref (h 0)), (1, .int (r)), (2, .int (g)), (3, .int (b)), (4, .int ((rPM τ r g b i (i + k) (rBM τ r g b i (rAM τ r g b nt i) k) q).1)), (5, .int ((rPM τ r g b i (i + k) (rBM τ r g b i (rAM τ r g b nt i) k) q).2)), (6, .int (nI (i))), (7, .int (nI ((i + k) + 1)))] rfl ?_
                      have hx := ih_47 (k + 1) (by omega) (by omega)
                      rw [eb] at hx
                      exact hx
                    ·
                      have d_62_5 : ¬ 5 ≤ q := fun zz => c_62_5 ((nI_leI (a := 5) (b := q) (by omega) (by omega)).mpr zz)
                      refine g_aload_n 0 C rfl dX1_recipe_65 rfl ?_
                      refine g_get (C0 := RX1) (T := TX1) (N := 22) 0 1 5 (.ref (h 3)) C hin rfl rfl (by decide) (by decide +kernel) rfl dX1_recipe_66 ?_
                      refine g_iload 6 C rfl dX1_recipe_69 ?_
                      refine g_ialdN (cA := cI) (n := 12) (a := h 3) (f := τ.2 2) i 3 0 C rfl rfl (by omega) (by decide) dX1_recipe_71 ?_
                      refine g_if_le 165 C dX1_recipe_72 (by decide) (fun c_72_6 => ?_) (fun c_72_6 => ?_)
                      ·
                        obtain rfl : q = 0 := hq0.resolve_right (fun z => z (Or.inl c_72_6))
                        have eb : rBM τ r g b i (rAM τ r g b nt i) (k + 1) = rPM τ r g b i (i + k) (rBM τ r g b i (rAM τ r g b nt i) k) 0 := if_pos (Or.inl c_72_6)
                        refine g_iincN 7 (i + k) 1 [(7, .int (nI ((i + k) + 1))), (0, .ref (h 0)), (1, .int (r)), (2, .int (g)), (3, .int (b)), (4, .int ((rPM τ r g b i (i + k) (rBM τ r g b i (rAM τ r g b nt i) k) 0).1)), (5, .int ((rPM τ r g b i (i + k) (rBM τ r g b i (rAM τ r g b nt i) k) 0).2)), (6, .int (nI (i))), (8, .int (nI (0)))] C dX1_recipe_165 rfl (by decide) (by decide) rfl ?_
                        refine g_goto 47 C dX1_recipe_168 (by decide) ?_
                        refine g_lv [1, 2, 3, 4, 5, 6, 7, 0] [(0, .ref (h 0)), (1, .int (r)), (2, .int (g)), (3, .int (b)), (4, .int ((rPM τ r g b i (i + k) (rBM τ r g b i (rAM τ r g b nt i) k) 0).1)), (5, .int ((rPM τ r g b i (i + k) (rBM τ r g b i (rAM τ r g b nt i) k) 0).2)), (6, .int (nI (i))), (7, .int (nI ((i + k) + 1)))] rfl ?_
                        have hx := ih_47 (k + 1) (by omega) (by omega)
                        rw [eb] at hx
                        exact hx
                      ·
                        have za := c_72_6
                        refine g_aload_n 0 C rfl dX1_recipe_75 rfl ?_
                        refine g_get (C0 := RX1) (T := TX1) (N := 22) 0 1 5 (.ref (h 3)) C hin rfl rfl (by decide) (by decide +kernel) rfl dX1_recipe_76 ?_
                        refine g_iload 7 C rfl dX1_recipe_79 ?_
                        refine g_ialdN (cA := cI) (n := 12) (a := h 3) (f := τ.2 2) (i + k) 3 0 C rfl rfl (by omega) (by decide) dX1_recipe_81 ?_
                        refine g_if_le 165 C dX1_recipe_82 (by decide) (fun c_82_7 => ?_) (fun c_82_7 => ?_)
                        ·
                          obtain rfl : q = 0 := hq0.resolve_right (fun z => z (Or.inr c_82_7))
                          have eb : rBM τ r g b i (rAM τ r g b nt i) (k + 1) = rPM τ r g b i (i + k) (rBM τ r g b i (rAM τ r g b nt i) k) 0 := if_pos (Or.inr c_82_7)
                          refine g_iincN 7 (i + k) 1 [(7, .int (nI ((i + k) + 1))), (0, .ref (h 0)), (1, .int (r)), (2, .int (g)), (3, .int (b)), (4, .int ((rPM τ r g b i (i + k) (rBM τ r g b i (rAM τ r g b nt i) k) 0).1)), (5, .int ((rPM τ r g b i (i + k) (rBM τ r g b i (rAM τ r g b nt i) k) 0).2)), (6, .int (nI (i))), (8, .int (nI (0)))] C dX1_recipe_165 rfl (by decide) (by decide) rfl ?_
                          refine g_goto 47 C dX1_recipe_168 (by decide) ?_
                          refine g_lv [1, 2, 3, 4, 5, 6, 7, 0] [(0, .ref (h 0)), (1, .int (r)), (2, .int (g)), (3, .int (b)), (4, .int ((rPM τ r g b i (i + k) (rBM τ r g b i (rAM τ r g b nt i) k) 0).1)), (5, .int ((rPM τ r g b i (i + k) (rBM τ r g b i (rAM τ r g b nt i) k) 0).2)), (6, .int (nI (i))), (7, .int (nI ((i + k) + 1)))] rfl ?_
                          have hx := ih_47 (k + 1) (by omega) (by omega)
                          rw [eb] at hx
                          exact hx
                        ·
                          have zb := c_82_7
                          refine g_aload_n 0 C rfl dX1_recipe_85 rfl ?_
                          refine g_iload 6 C rfl dX1_recipe_86 ?_
                          refine g_iload 7 C rfl dX1_recipe_88 ?_
                          refine g_iload 8 C rfl dX1_recipe_90 ?_
                          refine g_iconst 0 C dX1_recipe_92 (by decide) ?_
                          refine g_iload_n 1 C rfl dX1_recipe_93 rfl ?_
                          refine g_callV0 (C0 := RX1) (T := TX1) (N := 22) (ci := 1) (na := 5) (As := [.int (nI (i)), .int (nI (i + k)), .int (nI (q)), .int (0), .int (r)]) (c_m_far l D cI cJ h (sS τ 0 (0)) np nt no ni hI0 i (i + k) (nI (q)) 0 (r) (by omega) (by omega) (by decide)) C gX1_recipe_X1_far rfl (by decide +kernel) rfl ⟨Nat.le_of_ble_eq_true rfl, Nat.le_of_ble_eq_true rfl⟩ rfl rfl rfl (Nat.le_of_ble_eq_true rfl) ⟨Nat.zero_le _, Nat.zero_le _⟩ rfl dX1_recipe_94 ?_
                          refine g_is ((farM τ i (i + k) (nI (q)) 0 (r))) rfl ?_
                          refine g_aload_n 0 C rfl dX1_recipe_97 rfl ?_
                          refine g_iload 6 C rfl dX1_recipe_98 ?_
                          refine g_iload 7 C rfl dX1_recipe_100 ?_
                          refine g_iload 8 C rfl dX1_recipe_102 ?_
                          refine g_iconst 1 C dX1_recipe_104 (by decide) ?_
                          refine g_iload_n 2 C rfl dX1_recipe_105 rfl ?_
                          refine g_callV0 (C0 := RX1) (T := TX1) (N := 22) (ci := 1) (na := 5) (As := [.int (nI (i)), .int (nI (i + k)), .int (nI (q)), .int (1), .int (g)]) (c_m_far l D cI cJ h (sS τ 0 (0)) np nt no ni hI0 i (i + k) (nI (q)) 1 (g) (by omega) (by omega) (by decide)) C gX1_recipe_X1_far rfl (by decide +kernel) rfl ⟨Nat.le_of_ble_eq_true rfl, Nat.le_of_ble_eq_true rfl⟩ rfl rfl rfl (Nat.le_of_ble_eq_true rfl) ⟨Nat.zero_le _, Nat.zero_le _⟩ rfl dX1_recipe_106 ?_
                          refine g_is ((farM τ i (i + k) (nI (q)) 1 (g))) rfl ?_
                          refine g_iadd C dX1_recipe_109 ?_
                          refine g_aload_n 0 C rfl dX1_recipe_110 rfl ?_
                          refine g_iload 6 C rfl dX1_recipe_111 ?_
                          refine g_iload 7 C rfl dX1_recipe_113 ?_
                          refine g_iload 8 C rfl dX1_recipe_115 ?_
                          refine g_iconst 2 C dX1_recipe_117 (by decide) ?_
                          refine g_iload_n 3 C rfl dX1_recipe_118 rfl ?_
                          refine g_callV0 (C0 := RX1) (T := TX1) (N := 22) (ci := 1) (na := 5) (As := [.int (nI (i)), .int (nI (i + k)), .int (nI (q)), .int (2), .int (b)]) (c_m_far l D cI cJ h (sS τ 0 (0)) np nt no ni hI0 i (i + k) (nI (q)) 2 (b) (by omega) (by omega) (by decide)) C gX1_recipe_X1_far rfl (by decide +kernel) rfl ⟨Nat.le_of_ble_eq_true rfl, Nat.le_of_ble_eq_true rfl⟩ rfl rfl rfl (Nat.le_of_ble_eq_true rfl) ⟨Nat.zero_le _, Nat.zero_le _⟩ rfl dX1_recipe_119 ?_
                          refine g_is ((farM τ i (i + k) (nI (q)) 2 (b))) rfl ?_
                          refine g_iadd C dX1_recipe_122 ?_
                          refine g_is ((rdM τ i (i + k) q r g b)) rfl ?_
                          refine g_istore [(9, .int (rdM τ i (i + k) q r g b)), (0, .ref (h 0)), (1, .int (r)), (2, .int (g)), (3, .int (b)), (4, .int ((rPM τ r g b i (i + k) (rBM τ r g b i (rAM τ r g b nt i) k) q).1)), (5, .int ((rPM τ r g b i (i + k) (rBM τ r g b i (rAM τ r g b nt i) k) q).2)), (6, .int (nI (i))), (7, .int (nI (i + k))), (8, .int (nI (q)))] C dX1_recipe_123 (by decide) rfl ?_
                          refine g_iload 5 C rfl dX1_recipe_125 ?_
                          refine g_iconst (-1) C dX1_recipe_127 (by decide) ?_
                          refine g_icmp_eq 138 C dX1_recipe_128 (by decide) (fun c_128_8 => ?_) (fun c_128_8 => ?_)
                          ·
                            have ep : rPM τ r g b i (i + k) (rBM τ r g b i (rAM τ r g b nt i) k) (q + 1) = (nI (1000 * i + 10 * (i + k) + q), rdM τ i (i + k) q r g b) := if_pos (Or.inl c_128_8)
                            refine g_sipush 1000 C dX1_recipe_138 (by decide) ?_
                            refine g_iload 7 C rfl dX1_recipe_141 ?_
                            refine g_imulN 1000 i C dX1_recipe_143 ?_
                            refine g_bipush 10 C dX1_recipe_144 (by decide) ?_
                            refine g_iload 8 C rfl dX1_recipe_146 ?_
                            refine g_imulN 10 (i + k) C dX1_recipe_148 ?_
                            refine g_iaddN (1000 * i) (10 * (i + k)) C dX1_recipe_149 ?_
                            refine g_iload 9 C rfl dX1_recipe_150 ?_
                            refine g_iaddN ((1000 * i) + (10 * (i + k))) q C dX1_recipe_152 ?_
                            refine g_istore [(4, .int (nI (((1000 * i) + (10 * (i + k))) + q))), (9, .int (rdM τ i (i + k) q r g b)), (0, .ref (h 0)), (1, .int (r)), (2, .int (g)), (3, .int (b)), (5, .int ((rPM τ r g b i (i + k) (rBM τ r g b i (rAM τ r g b nt i) k) q).2)), (6, .int (nI (i))), (7, .int (nI (i + k))), (8, .int (nI (q)))] C dX1_recipe_153 (by decide) rfl ?_
                            refine g_iload 1 C rfl dX1_recipe_155 ?_
                            refine g_istore [(5, .int (rdM τ i (i + k) q r g b)), (4, .int (nI (((1000 * i) + (10 * (i + k))) + q))), (9, .int (rdM τ i (i + k) q r g b)), (0, .ref (h 0)), (1, .int (r)), (2, .int (g)), (3, .int (b)), (6, .int (nI (i))), (7, .int (nI (i + k))), (8, .int (nI (q)))] C dX1_recipe_157 (by decide) rfl ?_
                            refine g_iincN 9 q 1 [(8, .int (nI (q + 1))), (5, .int (rdM τ i (i + k) q r g b)), (4, .int (nI (((1000 * i) + (10 * (i + k))) + q))), (9, .int (rdM τ i (i + k) q r g b)), (0, .ref (h 0)), (1, .int (r)), (2, .int (g)), (3, .int (b)), (6, .int (nI (i))), (7, .int (nI (i + k)))] C dX1_recipe_159 rfl (by decide) (by decide) rfl ?_
                            refine g_goto 59 C dX1_recipe_162 (by decide) ?_
                            refine g_lv [4, 5, 6, 7, 2, 1, 8, 9, 0] [(0, .ref (h 0)), (1, .int (r)), (2, .int (g)), (3, .int (b)), (4, .int (nI (((1000 * i) + (10 * (i + k))) + q))), (5, .int (rdM τ i (i + k) q r g b)), (6, .int (nI (i))), (7, .int (nI (i + k))), (8, .int (nI (q + 1)))] rfl ?_
                            have hx := ih_59 (q + 1) (by omega) (by omega) (Or.inr (fun z => z.elim za zb))
                            rw [ep] at hx
                            exact hx
                          ·
                            have zc := c_128_8
                            refine g_iload 0 C rfl dX1_recipe_131 ?_
                            refine g_iload 6 C rfl dX1_recipe_133 ?_
                            refine g_icmp_ge 159 C dX1_recipe_135 (by decide) (fun c_135_9 => ?_) (fun c_135_9 => ?_)
                            ·
                              have ep : rPM τ r g b i (i + k) (rBM τ r g b i (rAM τ r g b nt i) k) (q + 1) = rPM τ r g b i (i + k) (rBM τ r g b i (rAM τ r g b nt i) k) q := if_neg (fun z => z.elim zc (fun y => y c_135_9))
                              refine g_iincN 9 q 1 [(8, .int (nI (q + 1))), (9, .int (rdM τ i (i + k) q r g b)), (0, .ref (h 0)), (1, .int (r)), (2, .int (g)), (3, .int (b)), (4, .int ((rPM τ r g b i (i + k) (rBM τ r g b i (rAM τ r g b nt i) k) q).1)), (5, .int ((rPM τ r g b i (i + k) (rBM τ r g b i (rAM τ r g b nt i) k) q).2)), (6, .int (nI (i))), (7, .int (nI (i + k)))] C dX1_recipe_159 rfl (by decide) (by decide) rfl ?_
                              refine g_goto 59 C dX1_recipe_162 (by decide) ?_
                              refine g_lv [2, 3, 4, 5, 6, 7, 8, 9, 0] [(0, .ref (h 0)), (1, .int (r)), (2, .int (g)), (3, .int (b)), (4, .int ((rPM τ r g b i (i + k) (rBM τ r g b i (rAM τ r g b nt i) k) q).1)), (5, .int ((rPM τ r g b i (i + k) (rBM τ r g b i (rAM τ r g b nt i) k) q).2)), (6, .int (nI (i))), (7, .int (nI (i + k))), (8, .int (nI (q + 1)))] rfl ?_
                              have hx := ih_59 (q + 1) (by omega) (by omega) (Or.inr (fun z => z.elim za zb))
                              rw [ep] at hx
                              exact hx
                            ·
                              have ep : rPM τ r g b i (i + k) (rBM τ r g b i (rAM τ r g b nt i) k) (q + 1) = (nI (1000 * i + 10 * (i + k) + q), rdM τ i (i + k) q r g b) := if_pos (Or.inr c_135_9)
                              refine g_sipush 1000 C dX1_recipe_138 (by decide) ?_
                              refine g_iload 7 C rfl dX1_recipe_141 ?_
                              refine g_imulN 1000 i C dX1_recipe_143 ?_
                              refine g_bipush 10 C dX1_recipe_144 (by decide) ?_
                              refine g_iload 8 C rfl dX1_recipe_146 ?_
                              refine g_imulN 10 (i + k) C dX1_recipe_148 ?_
                              refine g_iaddN (1000 * i) (10 * (i + k)) C dX1_recipe_149 ?_
                              refine g_iload 9 C rfl dX1_recipe_150 ?_
                              refine g_iaddN ((1000 * i) + (10 * (i + k))) q C dX1_recipe_152 ?_
                              refine g_istore [(4, .int (nI (((1000 * i) + (10 * (i + k))) + q))), (9, .int (rdM τ i (i + k) q r g b)), (0, .ref (h 0)), (1, .int (r)), (2, .int (g)), (3, .int (b)), (5, .int ((rPM τ r g b i (i + k) (rBM τ r g b i (rAM τ r g b nt i) k) q).2)), (6, .int (nI (i))), (7, .int (nI (i + k))), (8, .int (nI (q)))] C dX1_recipe_153 (by decide) rfl ?_
                              refine g_iload 1 C rfl dX1_recipe_155 ?_
                              refine g_istore [(5, .int (rdM τ i (i + k) q r g b)), (4, .int (nI (((1000 * i) + (10 * (i + k))) + q))), (9, .int (rdM τ i (i + k) q r g b)), (0, .ref (h 0)), (1, .int (r)), (2, .int (g)), (3, .int (b)), (6, .int (nI (i))), (7, .int (nI (i + k))), (8, .int (nI (q)))] C dX1_recipe_157 (by decide) rfl ?_
                              refine g_iincN 9 q 1 [(8, .int (nI (q + 1))), (5, .int (rdM τ i (i + k) q r g b)), (4, .int (nI (((1000 * i) + (10 * (i + k))) + q))), (9, .int (rdM τ i (i + k) q r g b)), (0, .ref (h 0)), (1, .int (r)), (2, .int (g)), (3, .int (b)), (6, .int (nI (i))), (7, .int (nI (i + k)))] C dX1_recipe_159 rfl (by decide) (by decide) rfl ?_
                              refine g_goto 59 C dX1_recipe_162 (by decide) ?_
                              refine g_lv [4, 5, 6, 7, 2, 1, 8, 9, 0] [(0, .ref (h 0)), (1, .int (r)), (2, .int (g)), (3, .int (b)), (4, .int (nI (((1000 * i) + (10 * (i + k))) + q))), (5, .int (rdM τ i (i + k) q r g b)), (6, .int (nI (i))), (7, .int (nI (i + k))), (8, .int (nI (q + 1)))] rfl ?_
                              have hx := ih_59 (q + 1) (by omega) (by omega) (Or.inr (fun z => z.elim za zb))
                              rw [ep] at hx
                              exact hx
                refine g_lv [1, 2, 3, 4, 5, 6, 7, 8, 0] [(0, .ref (h 0)), (1, .int (r)), (2, .int (g)), (3, .int (b)), (4, .int ((rBM τ r g b i (rAM τ r g b nt i) k).1)), (5, .int ((rBM τ r g b i (rAM τ r g b nt i) k).2)), (6, .int (nI (i))), (7, .int (nI (i + k))), (8, .int (0))] rfl ?_
                exact loop_59 6 0 (by omega) (by omega) (Or.inl rfl)
          refine g_lv [1, 2, 3, 4, 5, 6, 7, 0] [(0, .ref (h 0)), (1, .int (r)), (2, .int (g)), (3, .int (b)), (4, .int ((rAM τ r g b nt i).1)), (5, .int ((rAM τ r g b nt i).2)), (6, .int (nI (i))), (7, .int (nI (i)))] rfl ?_
          exact loop_47 (nt + 1) 0 (by omega) (by omega)
    refine g_lv [3, 4, 5, 6, 2, 1, 0] [(0, .ref (h 0)), (1, .int (r)), (2, .int (g)), (3, .int (b)), (4, .int ((-1))), (5, .int (0)), (6, .int (0))] rfl ?_
    exact loop_27 (nt + 1) 0 (by omega) (by omega)
