/-! The book, its calls (1). -/
set_option maxRecDepth 100000 in
set_option maxHeartbeats 4000000 in
theorem c_checkColour (l : Launch) (D : va_G) (cI cJ : ClassId) (hst : l.stackTraces = false) (w : va_W) (r g b : Int32) (K : Nat) (hK : K = if out r 0 255 ∨ out g 0 255 ∨ out b 0 255 then 2 else 0) : MC l yX0_checkColour wsX0_checkColour 7 112 D (tyIJ cI cJ) [.int (r), .int (g), .int (b)] w w (exT K) none (nT K) := by
  refine MC.ofG (cc := cX0_checkColour) (maxL := 3) (ret := none) [(0, .int (r)), (1, .int (g)), (2, .int (b))] (by decide) rfl (Nat.le_of_ble_eq_true rfl) rfl ?_
  intro p e s m args below meth c C hr hout
  refine g_iload_n 0 C rfl dX0_checkColour_0 rfl ?_
  refine g_iconst 0 C dX0_checkColour_1 (by decide) ?_
  refine g_sipush 255 C dX0_checkColour_2 (by decide) ?_
  by_cases c_5_1 : out (r) (0) (255)
  ·
    obtain rfl : K = 2 := hK.trans (by simp only [c_5_1, if_true, if_false, or_true, true_or, or_false, false_or, or_self])
    exact g_callSX (na := 3) (av := [.int (r), .int (0), .int (255)]) (c_checkRange l D cI cJ hst _ (r) (0) (255) 2 (if_pos c_5_1).symm) C gX0_checkColour_X0_checkRange rfl (by decide +kernel) rfl ⟨by decide, by decide⟩ rfl (Nat.le_of_ble_eq_true rfl) ⟨by decide, by decide⟩ hout (by decide) (by decide) rfl dX0_checkColour_5
  refine g_callS0 (na := 3) (av := [.int (r), .int (0), .int (255)]) (c_checkRange l D cI cJ hst _ (r) (0) (255) 0 (if_neg c_5_1).symm) C gX0_checkColour_X0_checkRange rfl (by decide +kernel) rfl ⟨Nat.le_of_ble_eq_true rfl, Nat.le_of_ble_eq_true rfl⟩ rfl (Nat.le_of_ble_eq_true rfl) ⟨Nat.zero_le _, Nat.zero_le _⟩ rfl dX0_checkColour_5 ?_
  have hr1 := out_lo c_5_1
  refine g_iload_n 1 C rfl dX0_checkColour_8 rfl ?_
  refine g_iconst 0 C dX0_checkColour_9 (by decide) ?_
  refine g_sipush 255 C dX0_checkColour_10 (by decide) ?_
  by_cases c_13_2 : out (g) (0) (255)
  ·
    obtain rfl : K = 2 := hK.trans (by simp only [c_5_1, c_13_2, if_true, if_false, or_true, true_or, or_false, false_or, or_self])
    exact g_callSX (na := 3) (av := [.int (g), .int (0), .int (255)]) (c_checkRange l D cI cJ hst _ (g) (0) (255) 2 (if_pos c_13_2).symm) C gX0_checkColour_X0_checkRange rfl (by decide +kernel) rfl ⟨by decide, by decide⟩ rfl (Nat.le_of_ble_eq_true rfl) ⟨by decide, by decide⟩ hout (by decide) (by decide) rfl dX0_checkColour_13
  refine g_callS0 (na := 3) (av := [.int (g), .int (0), .int (255)]) (c_checkRange l D cI cJ hst _ (g) (0) (255) 0 (if_neg c_13_2).symm) C gX0_checkColour_X0_checkRange rfl (by decide +kernel) rfl ⟨Nat.le_of_ble_eq_true rfl, Nat.le_of_ble_eq_true rfl⟩ rfl (Nat.le_of_ble_eq_true rfl) ⟨Nat.zero_le _, Nat.zero_le _⟩ rfl dX0_checkColour_13 ?_
  have hg1 := out_lo c_13_2
  refine g_iload_n 2 C rfl dX0_checkColour_16 rfl ?_
  refine g_iconst 0 C dX0_checkColour_17 (by decide) ?_
  refine g_sipush 255 C dX0_checkColour_18 (by decide) ?_
  by_cases c_21_3 : out (b) (0) (255)
  ·
    obtain rfl : K = 2 := hK.trans (by simp only [c_5_1, c_13_2, c_21_3, if_true, if_false, or_true, true_or, or_false, false_or, or_self])
    exact g_callSX (na := 3) (av := [.int (b), .int (0), .int (255)]) (c_checkRange l D cI cJ hst _ (b) (0) (255) 2 (if_pos c_21_3).symm) C gX0_checkColour_X0_checkRange rfl (by decide +kernel) rfl ⟨by decide, by decide⟩ rfl (Nat.le_of_ble_eq_true rfl) ⟨by decide, by decide⟩ hout (by decide) (by decide) rfl dX0_checkColour_21
  refine g_callS0 (na := 3) (av := [.int (b), .int (0), .int (255)]) (c_checkRange l D cI cJ hst _ (b) (0) (255) 0 (if_neg c_21_3).symm) C gX0_checkColour_X0_checkRange rfl (by decide +kernel) rfl ⟨Nat.le_of_ble_eq_true rfl, Nat.le_of_ble_eq_true rfl⟩ rfl (Nat.le_of_ble_eq_true rfl) ⟨Nat.zero_le _, Nat.zero_le _⟩ rfl dX0_checkColour_21 ?_
  have hb1 := out_lo c_21_3
  obtain rfl : K = 0 := hK.trans (by simp only [c_5_1, c_13_2, c_21_3, if_true, if_false, or_true, true_or, or_false, false_or, or_self])
  exact g_vret C hr dX0_checkColour_24 (Nat.zero_le _) (Nat.zero_le _) rfl rfl rfl
set_option maxRecDepth 100000 in
set_option maxHeartbeats 4000000 in
theorem c_checkAtHome (l : Launch) (D : va_G) (cI cJ : ClassId) (hst : l.stackTraces = false) (h : Nat → Nat) (σ : gS) (np nt no ni : Nat) (hI : iA σ np nt no ni) (q : Nat) (hq : q < 8) (K : Nat) (hK : K = if ¬ σ.2 7 q ≤ 0 then 3 else 0) : MC l yX0_checkAtHome wsX0_checkAtHome 6 90 D (tyIJ cI cJ) [.ref (h 0), .int (nI (q))] (wA cI h σ) (wA cI h σ) (exT K) none (nT K) := by
  have hI0 := hI
  obtain ⟨⟨hnp, hnp6⟩, ⟨hnt, hnt12⟩, ⟨hno, hno10⟩, ⟨hni, hni8⟩, hPT, hLC, hLH⟩ := hI
  refine MC.ofG (cc := cX0_checkAtHome) (maxL := 2) (ret := none) [(0, .ref (h 0)), (1, .int (nI (q)))] (by decide) rfl (Nat.le_of_ble_eq_true rfl) rfl ?_
  intro p e s m args below meth c C hr hout
  refine g_aload_n 0 C rfl dX0_checkAtHome_0 rfl ?_
  refine g_iload_n 1 C rfl dX0_checkAtHome_1 rfl ?_
  refine g_callV0 (C0 := RX0) (T := TX0) (N := 17) (ci := 0) (na := 1) (As := [.int (nI (q))]) (c_isLent l D cI cJ h σ np nt no ni hI0 q (by omega)) C gX0_checkAtHome_X0_isLent rfl (by decide +kernel) rfl ⟨Nat.le_of_ble_eq_true rfl, Nat.le_of_ble_eq_true rfl⟩ rfl rfl rfl (Nat.le_of_ble_eq_true rfl) ⟨Nat.zero_le _, Nat.zero_le _⟩ rfl dX0_checkAtHome_2 ?_
  refine g_if_eq 18 C dX0_checkAtHome_5 (by decide) (fun c_5_1 => ?_) (fun c_5_1 => ?_)
  ·
    obtain rfl : K = 0 := hK.trans (if_neg (bI_eq c_5_1))
    exact g_vret C hr dX0_checkAtHome_18 (Nat.zero_le _) (Nat.zero_le _) rfl rfl rfl
  ·
    obtain rfl : K = 3 := hK.trans (if_pos (bI_ne c_5_1))
    exact g_throw (cls := eISE) (text := "the picture is lent") C hst rfl (by decide +kernel) (by decide +kernel) (by decide +kernel) (by decide +kernel) (by decide +kernel) (by decide +kernel) (by decide +kernel) hout dX0_checkAtHome_8 dX0_checkAtHome_11 dX0_checkAtHome_12 dX0_checkAtHome_14 dX0_checkAtHome_17 (by decide) (by decide) (by decide) (by decide) (by decide) (by decide) rfl
set_option maxRecDepth 100000 in
set_option maxHeartbeats 4000000 in
theorem c_pigment (l : Launch) (D : va_G) (cI cJ : ClassId) (hst : l.stackTraces = false) (h : Nat → Nat) (σ : gS) (np nt no ni : Nat) (hI : iA σ np nt no ni) (r g b : Int32) (K : Nat) (hK : K = th_pigment np r g b) : MC l yX0_pigment wsX0_pigment 8 134 D (tyIJ cI cJ) [.ref (h 0), .int (r), .int (g), .int (b)] (wA cI h σ) (wA cI h (s_pigment σ np r g b)) (exT K) (some (.int (nI np))) (nT K) := by
  have hI0 := hI
  obtain ⟨⟨hnp, hnp6⟩, ⟨hnt, hnt12⟩, ⟨hno, hno10⟩, ⟨hni, hni8⟩, hPT, hLC, hLH⟩ := hI
  refine MC.ofG (cc := cX0_pigment) (maxL := 5) (ret := (some .int)) [(0, .ref (h 0)), (1, .int (r)), (2, .int (g)), (3, .int (b))] (by decide) rfl (Nat.le_of_ble_eq_true rfl) rfl ?_
  intro p e s m args below meth c C hr hout
  have hin : ∀ w ∈ wsX00, w ∈ wsX0_pigment := fun w h => by first | exact List.mem_cons_of_mem _ (List.mem_append_right _ h) | exact List.mem_cons_of_mem _ (List.mem_append_left _ (List.mem_append_right _ h)) | exact List.mem_cons_of_mem _ (List.mem_append_left _ (List.mem_append_left _ (List.mem_append_right _ h))) | exact List.mem_cons_of_mem _ (List.mem_append_left _ (List.mem_append_left _ (List.mem_append_left _ (List.mem_append_right _ h)))) | exact List.mem_cons_of_mem _ (List.mem_append_left _ (List.mem_append_left _ (List.mem_append_left _ (List.mem_append_left _ (List.mem_append_right _ h)))))
  refine g_iload_n 1 C rfl dX0_pigment_0 rfl ?_
  refine g_iload_n 2 C rfl dX0_pigment_1 rfl ?_
  refine g_iload_n 3 C rfl dX0_pigment_2 rfl ?_
  by_cases c_3_1 : out (r) 0 255 ∨ out (g) 0 255 ∨ out (b) 0 255
  ·
    obtain rfl : K = 2 := hK.trans (by simp only [th_pigment, c_3_1, if_true, if_false, not_true, not_false_iff])
    exact g_callSX (na := 3) (av := [.int (r), .int (g), .int (b)]) (c_checkColour l D cI cJ hst _ (r) (g) (b) 2 (if_pos c_3_1).symm) C gX0_pigment_X0_checkColour rfl (by decide +kernel) rfl ⟨by decide, by decide⟩ rfl (Nat.le_of_ble_eq_true rfl) ⟨by decide, by decide⟩ hout (by decide) (by decide) rfl dX0_pigment_3
  refine g_callS0 (na := 3) (av := [.int (r), .int (g), .int (b)]) (c_checkColour l D cI cJ hst _ (r) (g) (b) 0 (if_neg c_3_1).symm) C gX0_pigment_X0_checkColour rfl (by decide +kernel) rfl ⟨Nat.le_of_ble_eq_true rfl, Nat.le_of_ble_eq_true rfl⟩ rfl (Nat.le_of_ble_eq_true rfl) ⟨Nat.zero_le _, Nat.zero_le _⟩ rfl dX0_pigment_3 ?_
  refine g_aload_n 0 C rfl dX0_pigment_6 rfl ?_
  refine g_get (C0 := RX0) (T := TX0) (N := 17) 0 0 0 (.int (σ.1 0)) C hin rfl rfl (by decide) (by decide +kernel) rfl dX0_pigment_7 ?_
  refine g_is (nI np) hnp ?_
  refine g_bipush 6 C dX0_pigment_10 (by decide) ?_
  refine g_icmp_lt 25 C dX0_pigment_12 (by decide) (fun c_12_2 => ?_) (fun c_12_2 => ?_)
  ·
    have d_12_2 : np < 6 := (nI_ltI (a := np) (b := 6) (by omega) (by omega)).mp c_12_2
    refine g_aload_n 0 C rfl dX0_pigment_25 rfl ?_
    refine g_get (C0 := RX0) (T := TX0) (N := 17) 0 0 0 (.int (σ.1 0)) C hin rfl rfl (by decide) (by decide +kernel) rfl dX0_pigment_26 ?_
    refine g_is (nI np) hnp ?_
    refine g_iconst 3 C dX0_pigment_29 (by decide) ?_
    refine g_imulN np 3 C dX0_pigment_30 ?_
    refine g_istore [(4, .int (nI (np * 3))), (0, .ref (h 0)), (1, .int (r)), (2, .int (g)), (3, .int (b))] C dX0_pigment_31 (by decide) rfl ?_
    refine g_aload_n 1 C rfl dX0_pigment_33 rfl ?_
    refine g_get (C0 := RX0) (T := TX0) (N := 17) 0 0 5 (.ref (h 1)) C hin rfl rfl (by decide) (by decide +kernel) rfl dX0_pigment_34 ?_
    refine g_iload 0 C rfl dX0_pigment_37 ?_
    refine g_iload_n 2 C rfl dX0_pigment_39 rfl ?_
    refine g_iastN (cA := cI) (n := 18) (a := h 1) (f := σ.2 0) (x := r) (np * 3) 1 0 (wA cI h (sA σ 0 (upd (σ.2 0) (np * 3) (r)))) C rfl rfl (by omega) (by decide) rfl dX0_pigment_40 ?_
    refine g_aload_n 1 C rfl dX0_pigment_41 rfl ?_
    refine g_get (C0 := RX0) (T := TX0) (N := 17) 0 0 5 (.ref (h 1)) C hin rfl rfl (by decide) (by decide +kernel) rfl dX0_pigment_42 ?_
    refine g_iload 0 C rfl dX0_pigment_45 ?_
    refine g_iconst 1 C dX0_pigment_47 (by decide) ?_
    refine g_iaddN (np * 3) 1 C dX0_pigment_48 ?_
    refine g_iload_n 3 C rfl dX0_pigment_49 rfl ?_
    refine g_iastN (cA := cI) (n := 18) (a := h 1) (f := upd (σ.2 0) (np * 3) (r)) (x := g) ((np * 3) + 1) 1 0 (wA cI h (sA σ 0 (upd (upd (σ.2 0) (np * 3) (r)) ((np * 3) + 1) (g)))) C rfl rfl (by omega) (by decide) rfl dX0_pigment_50 ?_
    refine g_aload_n 1 C rfl dX0_pigment_51 rfl ?_
    refine g_get (C0 := RX0) (T := TX0) (N := 17) 0 0 5 (.ref (h 1)) C hin rfl rfl (by decide) (by decide +kernel) rfl dX0_pigment_52 ?_
    refine g_iload 0 C rfl dX0_pigment_55 ?_
    refine g_iconst 2 C dX0_pigment_57 (by decide) ?_
    refine g_iaddN (np * 3) 2 C dX0_pigment_58 ?_
    refine g_iload_n 4 C rfl dX0_pigment_59 rfl ?_
    refine g_iastN (cA := cI) (n := 18) (a := h 1) (f := upd (upd (σ.2 0) (np * 3) (r)) ((np * 3) + 1) (g)) (x := b) ((np * 3) + 2) 1 0 (wA cI h (sA σ 0 (upd (upd (upd (σ.2 0) (np * 3) (r)) ((np * 3) + 1) (g)) ((np * 3) + 2) (b)))) C rfl rfl (by omega) (by decide) rfl dX0_pigment_60 ?_
    refine g_aload_n 1 C rfl dX0_pigment_61 rfl ?_
    refine g_dup C dX0_pigment_62 rfl ?_
    refine g_get (C0 := RX0) (T := TX0) (N := 17) 0 0 0 (.int (σ.1 0)) C hin rfl rfl (by decide) (by decide +kernel) rfl dX0_pigment_63 ?_
    refine g_is (nI np) hnp ?_
    refine g_iconst 1 C dX0_pigment_66 (by decide) ?_
    refine g_iaddN np 1 C dX0_pigment_67 ?_
    refine g_put (C0 := RX0) (T := TX0) (N := 17) 0 0 0 (wA cI h (sS (sA σ 0 (upd (upd (upd (σ.2 0) (np * 3) (r)) ((np * 3) + 1) (g)) ((np * 3) + 2) (b))) 0 (nI (np + 1)))) C hin tyX0_ok nmX0 rfl rfl (by decide) (by decide +kernel) rfl (by decide +kernel) (Nat.le_of_ble_eq_true rfl) rfl dX0_pigment_68 ?_
    refine g_aload_n 1 C rfl dX0_pigment_71 rfl ?_
    refine g_get (C0 := RX0) (T := TX0) (N := 17) 0 0 0 (.int (nI (np + 1))) C hin rfl rfl (by decide) (by decide +kernel) rfl dX0_pigment_72 ?_
    refine g_iconst 1 C dX0_pigment_75 (by decide) ?_
    refine g_isubN (np + 1) 1 C (by omega) dX0_pigment_76 ?_
    obtain rfl : K = 0 := hK.trans (by simp only [th_pigment, c_3_1, c_12_2, if_true, if_false, not_true, not_false_iff])
    exact g_iret C hr rfl dX0_pigment_77 (Nat.zero_le _) (Nat.zero_le _) rfl rfl rfl
  ·
    have d_12_2 : ¬ np < 6 := fun q => c_12_2 ((nI_ltI (a := np) (b := 6) (by omega) (by omega)).mpr q)
    obtain rfl : K = 3 := hK.trans (by simp only [th_pigment, c_3_1, c_12_2, if_true, if_false, not_true, not_false_iff])
    exact g_throw (cls := eISE) (text := "no more pigments") C hst rfl (by decide +kernel) (by decide +kernel) (by decide +kernel) (by decide +kernel) (by decide +kernel) (by decide +kernel) (by decide +kernel) hout dX0_pigment_15 dX0_pigment_18 dX0_pigment_19 dX0_pigment_21 dX0_pigment_24 (by decide) (by decide) (by decide) (by decide) (by decide) (by decide) rfl
set_option maxRecDepth 100000 in
set_option maxHeartbeats 4000000 in
theorem c_tube (l : Launch) (D : va_G) (cI cJ : ClassId) (hst : l.stackTraces = false) (h : Nat → Nat) (σ : gS) (np nt no ni : Nat) (hI : iA σ np nt no ni) (x g : Int32) (K : Nat) (hK : K = th_tube np nt x g) : MC l yX0_tube wsX0_tube 7 112 D (tyIJ cI cJ) [.ref (h 0), .int (x), .int (g)] (wA cI h σ) (wA cI h (s_tube σ nt x g)) (exT K) (some (.int (nI nt))) (nT K) := by
  have hI0 := hI
  obtain ⟨⟨hnp, hnp6⟩, ⟨hnt, hnt12⟩, ⟨hno, hno10⟩, ⟨hni, hni8⟩, hPT, hLC, hLH⟩ := hI
  refine MC.ofG (cc := cX0_tube) (maxL := 3) (ret := (some .int)) [(0, .ref (h 0)), (1, .int (x)), (2, .int (g))] (by decide) rfl (Nat.le_of_ble_eq_true rfl) rfl ?_
  intro p e s m args below meth c C hr hout
  have hin : ∀ w ∈ wsX00, w ∈ wsX0_tube := fun w h => by first | exact List.mem_cons_of_mem _ (List.mem_append_right _ h) | exact List.mem_cons_of_mem _ (List.mem_append_left _ (List.mem_append_right _ h)) | exact List.mem_cons_of_mem _ (List.mem_append_left _ (List.mem_append_left _ (List.mem_append_right _ h))) | exact List.mem_cons_of_mem _ (List.mem_append_left _ (List.mem_append_left _ (List.mem_append_left _ (List.mem_append_right _ h)))) | exact List.mem_cons_of_mem _ (List.mem_append_left _ (List.mem_append_left _ (List.mem_append_left _ (List.mem_append_left _ (List.mem_append_right _ h)))))
  refine g_iload_n 1 C rfl dX0_tube_0 rfl ?_
  refine g_aload_n 0 C rfl dX0_tube_1 rfl ?_
  refine g_get (C0 := RX0) (T := TX0) (N := 17) 0 0 0 (.int (σ.1 0)) C hin rfl rfl (by decide) (by decide +kernel) rfl dX0_tube_2 ?_
  refine g_is (nI np) hnp ?_
  by_cases c_5_1 : bad x (nI (np))
  ·
    obtain rfl : K = 1 := hK.trans (by simp [th_tube, c_5_1])
    exact g_callSX (na := 2) (av := [.int (x), .int (nI (np))]) (c_checkNumber l D cI cJ hst _ x (nI (np)) 1 (if_pos c_5_1).symm) C gX0_tube_X0_checkNumber rfl (by decide +kernel) rfl ⟨by decide, by decide⟩ rfl (Nat.le_of_ble_eq_true rfl) ⟨by decide, by decide⟩ hout (by decide) (by decide) rfl dX0_tube_5
  refine g_callS0 (na := 2) (av := [.int (x), .int (nI (np))]) (c_checkNumber l D cI cJ hst _ x (nI (np)) 0 (if_neg c_5_1).symm) C gX0_tube_X0_checkNumber rfl (by decide +kernel) rfl ⟨Nat.le_of_ble_eq_true rfl, Nat.le_of_ble_eq_true rfl⟩ rfl (Nat.le_of_ble_eq_true rfl) ⟨Nat.zero_le _, Nat.zero_le _⟩ rfl dX0_tube_5 ?_
  obtain ⟨x', hx', rfl⟩ := nb_of (N := np) rfl (by omega) c_5_1
  have kx' : cl (nI x') = x' := cl_nI (by omega)
  refine g_iload_n 2 C rfl dX0_tube_8 rfl ?_
  refine g_iconst 1 C dX0_tube_9 (by decide) ?_
  refine g_sipush 1000 C dX0_tube_10 (by decide) ?_
  by_cases c_13_2 : out (g) (1) (1000)
  ·
    obtain rfl : K = 2 := hK.trans (by simp [th_tube, c_5_1, c_13_2, kx'])
    exact g_callSX (na := 3) (av := [.int (g), .int (1), .int (1000)]) (c_checkRange l D cI cJ hst _ (g) (1) (1000) 2 (if_pos c_13_2).symm) C gX0_tube_X0_checkRange rfl (by decide +kernel) rfl ⟨by decide, by decide⟩ rfl (Nat.le_of_ble_eq_true rfl) ⟨by decide, by decide⟩ hout (by decide) (by decide) rfl dX0_tube_13
  refine g_callS0 (na := 3) (av := [.int (g), .int (1), .int (1000)]) (c_checkRange l D cI cJ hst _ (g) (1) (1000) 0 (if_neg c_13_2).symm) C gX0_tube_X0_checkRange rfl (by decide +kernel) rfl ⟨Nat.le_of_ble_eq_true rfl, Nat.le_of_ble_eq_true rfl⟩ rfl (Nat.le_of_ble_eq_true rfl) ⟨Nat.zero_le _, Nat.zero_le _⟩ rfl dX0_tube_13 ?_
  have hg1 := out_lo c_13_2
  refine g_aload_n 0 C rfl dX0_tube_16 rfl ?_
  refine g_get (C0 := RX0) (T := TX0) (N := 17) 0 0 1 (.int (σ.1 1)) C hin rfl rfl (by decide) (by decide +kernel) rfl dX0_tube_17 ?_
  refine g_is (nI nt) hnt ?_
  refine g_bipush 12 C dX0_tube_20 (by decide) ?_
  refine g_icmp_lt 35 C dX0_tube_22 (by decide) (fun c_22_3 => ?_) (fun c_22_3 => ?_)
  ·
    have d_22_3 : nt < 12 := (nI_ltI (a := nt) (b := 12) (by omega) (by omega)).mp c_22_3
    refine g_aload_n 0 C rfl dX0_tube_35 rfl ?_
    refine g_get (C0 := RX0) (T := TX0) (N := 17) 0 0 6 (.ref (h 2)) C hin rfl rfl (by decide) (by decide +kernel) rfl dX0_tube_36 ?_
    refine g_aload_n 0 C rfl dX0_tube_39 rfl ?_
    refine g_get (C0 := RX0) (T := TX0) (N := 17) 0 0 1 (.int (σ.1 1)) C hin rfl rfl (by decide) (by decide +kernel) rfl dX0_tube_40 ?_
    refine g_is (nI nt) hnt ?_
    refine g_iload_n 1 C rfl dX0_tube_43 rfl ?_
    refine g_iastN (cA := cI) (n := 12) (a := h 2) (f := σ.2 1) (x := nI (x')) nt 2 0 (wA cI h (sA σ 1 (upd (σ.2 1) nt (nI (x'))))) C rfl rfl (by omega) (by decide) rfl dX0_tube_44 ?_
    refine g_aload_n 0 C rfl dX0_tube_45 rfl ?_
    refine g_get (C0 := RX0) (T := TX0) (N := 17) 0 0 7 (.ref (h 3)) C hin rfl rfl (by decide) (by decide +kernel) rfl dX0_tube_46 ?_
    refine g_aload_n 0 C rfl dX0_tube_49 rfl ?_
    refine g_get (C0 := RX0) (T := TX0) (N := 17) 0 0 1 (.int (σ.1 1)) C hin rfl rfl (by decide) (by decide +kernel) rfl dX0_tube_50 ?_
    refine g_is (nI nt) hnt ?_
    refine g_iload_n 2 C rfl dX0_tube_53 rfl ?_
    refine g_iastN (cA := cI) (n := 12) (a := h 3) (f := σ.2 2) (x := g) nt 3 0 (wA cI h (sA (sA σ 1 (upd (σ.2 1) nt (nI (x')))) 2 (upd (σ.2 2) nt (g)))) C rfl rfl (by omega) (by decide) rfl dX0_tube_54 ?_
    refine g_aload_n 0 C rfl dX0_tube_55 rfl ?_
    refine g_dup C dX0_tube_56 rfl ?_
    refine g_get (C0 := RX0) (T := TX0) (N := 17) 0 0 1 (.int (σ.1 1)) C hin rfl rfl (by decide) (by decide +kernel) rfl dX0_tube_57 ?_
    refine g_is (nI nt) hnt ?_
    refine g_iconst 1 C dX0_tube_60 (by decide) ?_
    refine g_iaddN nt 1 C dX0_tube_61 ?_
    refine g_put (C0 := RX0) (T := TX0) (N := 17) 0 0 1 (wA cI h (sS (sA (sA σ 1 (upd (σ.2 1) nt (nI (x')))) 2 (upd (σ.2 2) nt (g))) 1 (nI (nt + 1)))) C hin tyX0_ok nmX0 rfl rfl (by decide) (by decide +kernel) rfl (by decide +kernel) (Nat.le_of_ble_eq_true rfl) rfl dX0_tube_62 ?_
    refine g_aload_n 0 C rfl dX0_tube_65 rfl ?_
    refine g_get (C0 := RX0) (T := TX0) (N := 17) 0 0 1 (.int (nI (nt + 1))) C hin rfl rfl (by decide) (by decide +kernel) rfl dX0_tube_66 ?_
    refine g_iconst 1 C dX0_tube_69 (by decide) ?_
    refine g_isubN (nt + 1) 1 C (by omega) dX0_tube_70 ?_
    obtain rfl : K = 0 := hK.trans (by simp [th_tube, c_5_1, c_13_2, c_22_3, kx'])
    exact g_iret C hr rfl dX0_tube_71 (Nat.zero_le _) (Nat.zero_le _) rfl rfl rfl
  ·
    have d_22_3 : ¬ nt < 12 := fun q => c_22_3 ((nI_ltI (a := nt) (b := 12) (by omega) (by omega)).mpr q)
    obtain rfl : K = 3 := hK.trans (by simp [th_tube, c_5_1, c_13_2, c_22_3, kx'])
    exact g_throw (cls := eISE) (text := "no more tubes") C hst rfl (by decide +kernel) (by decide +kernel) (by decide +kernel) (by decide +kernel) (by decide +kernel) (by decide +kernel) (by decide +kernel) hout dX0_tube_25 dX0_tube_28 dX0_tube_29 dX0_tube_31 dX0_tube_34 (by decide) (by decide) (by decide) (by decide) (by decide) (by decide) rfl
set_option maxRecDepth 100000 in
set_option maxHeartbeats 4000000 in
theorem c_pot (l : Launch) (D : va_G) (cI cJ : ClassId) (hst : l.stackTraces = false) (h : Nat → Nat) (σ : gS) (np nt no ni : Nat) (hI : iA σ np nt no ni)  (K : Nat) (hK : K = th_pot no) : MC l yX0_pot wsX0_pot 6 90 D (tyIJ cI cJ) [.ref (h 0)] (wA cI h σ) (wA cI h (sS σ 2 (nI (no + 1)))) (exT K) (some (.int (nI no))) (nT K) := by
  have hI0 := hI
  obtain ⟨⟨hnp, hnp6⟩, ⟨hnt, hnt12⟩, ⟨hno, hno10⟩, ⟨hni, hni8⟩, hPT, hLC, hLH⟩ := hI
  refine MC.ofG (cc := cX0_pot) (maxL := 1) (ret := (some .int)) [(0, .ref (h 0))] (by decide) rfl (Nat.le_of_ble_eq_true rfl) rfl ?_
  intro p e s m args below meth c C hr hout
  have hin : ∀ w ∈ wsX00, w ∈ wsX0_pot := fun w h => by first | exact List.mem_cons_of_mem _ (List.mem_append_right _ h) | exact List.mem_cons_of_mem _ (List.mem_append_left _ (List.mem_append_right _ h)) | exact List.mem_cons_of_mem _ (List.mem_append_left _ (List.mem_append_left _ (List.mem_append_right _ h))) | exact List.mem_cons_of_mem _ (List.mem_append_left _ (List.mem_append_left _ (List.mem_append_left _ (List.mem_append_right _ h)))) | exact List.mem_cons_of_mem _ (List.mem_append_left _ (List.mem_append_left _ (List.mem_append_left _ (List.mem_append_left _ (List.mem_append_right _ h)))))
  refine g_aload_n 0 C rfl dX0_pot_0 rfl ?_
  refine g_get (C0 := RX0) (T := TX0) (N := 17) 0 0 2 (.int (σ.1 2)) C hin rfl rfl (by decide) (by decide +kernel) rfl dX0_pot_1 ?_
  refine g_is (nI no) hno ?_
  refine g_bipush 10 C dX0_pot_4 (by decide) ?_
  refine g_icmp_lt 19 C dX0_pot_6 (by decide) (fun c_6_1 => ?_) (fun c_6_1 => ?_)
  ·
    have d_6_1 : no < 10 := (nI_ltI (a := no) (b := 10) (by omega) (by omega)).mp c_6_1
    refine g_aload_n 0 C rfl dX0_pot_19 rfl ?_
    refine g_dup C dX0_pot_20 rfl ?_
    refine g_get (C0 := RX0) (T := TX0) (N := 17) 0 0 2 (.int (σ.1 2)) C hin rfl rfl (by decide) (by decide +kernel) rfl dX0_pot_21 ?_
    refine g_is (nI no) hno ?_
    refine g_iconst 1 C dX0_pot_24 (by decide) ?_
    refine g_iaddN no 1 C dX0_pot_25 ?_
    refine g_put (C0 := RX0) (T := TX0) (N := 17) 0 0 2 (wA cI h (sS σ 2 (nI (no + 1)))) C hin tyX0_ok nmX0 rfl rfl (by decide) (by decide +kernel) rfl (by decide +kernel) (Nat.le_of_ble_eq_true rfl) rfl dX0_pot_26 ?_
    refine g_aload_n 0 C rfl dX0_pot_29 rfl ?_
    refine g_get (C0 := RX0) (T := TX0) (N := 17) 0 0 2 (.int (nI (no + 1))) C hin rfl rfl (by decide) (by decide +kernel) rfl dX0_pot_30 ?_
    refine g_iconst 1 C dX0_pot_33 (by decide) ?_
    refine g_isubN (no + 1) 1 C (by omega) dX0_pot_34 ?_
    obtain rfl : K = 0 := hK.trans (by simp [th_pot, c_6_1])
    exact g_iret C hr rfl dX0_pot_35 (Nat.zero_le _) (Nat.zero_le _) rfl rfl rfl
  ·
    have d_6_1 : ¬ no < 10 := fun q => c_6_1 ((nI_ltI (a := no) (b := 10) (by omega) (by omega)).mpr q)
    obtain rfl : K = 3 := hK.trans (by simp [th_pot, c_6_1])
    exact g_throw (cls := eISE) (text := "no more pots") C hst rfl (by decide +kernel) (by decide +kernel) (by decide +kernel) (by decide +kernel) (by decide +kernel) (by decide +kernel) (by decide +kernel) hout dX0_pot_9 dX0_pot_12 dX0_pot_13 dX0_pot_15 dX0_pot_18 (by decide) (by decide) (by decide) (by decide) (by decide) (by decide) rfl
set_option maxRecDepth 100000 in
set_option maxHeartbeats 4000000 in
theorem c_picture (l : Launch) (D : va_G) (cI cJ : ClassId) (hst : l.stackTraces = false) (h : Nat → Nat) (σ : gS) (np nt no ni : Nat) (hI : iA σ np nt no ni)  (K : Nat) (hK : K = th_picture ni) : MC l yX0_picture wsX0_picture 6 90 D (tyIJ cI cJ) [.ref (h 0)] (wA cI h σ) (wA cI h (sS σ 3 (nI (ni + 1)))) (exT K) (some (.int (nI ni))) (nT K) := by
  have hI0 := hI
  obtain ⟨⟨hnp, hnp6⟩, ⟨hnt, hnt12⟩, ⟨hno, hno10⟩, ⟨hni, hni8⟩, hPT, hLC, hLH⟩ := hI
  refine MC.ofG (cc := cX0_picture) (maxL := 1) (ret := (some .int)) [(0, .ref (h 0))] (by decide) rfl (Nat.le_of_ble_eq_true rfl) rfl ?_
  intro p e s m args below meth c C hr hout
  have hin : ∀ w ∈ wsX00, w ∈ wsX0_picture := fun w h => by first | exact List.mem_cons_of_mem _ (List.mem_append_right _ h) | exact List.mem_cons_of_mem _ (List.mem_append_left _ (List.mem_append_right _ h)) | exact List.mem_cons_of_mem _ (List.mem_append_left _ (List.mem_append_left _ (List.mem_append_right _ h))) | exact List.mem_cons_of_mem _ (List.mem_append_left _ (List.mem_append_left _ (List.mem_append_left _ (List.mem_append_right _ h)))) | exact List.mem_cons_of_mem _ (List.mem_append_left _ (List.mem_append_left _ (List.mem_append_left _ (List.mem_append_left _ (List.mem_append_right _ h)))))
  refine g_aload_n 0 C rfl dX0_picture_0 rfl ?_
  refine g_get (C0 := RX0) (T := TX0) (N := 17) 0 0 3 (.int (σ.1 3)) C hin rfl rfl (by decide) (by decide +kernel) rfl dX0_picture_1 ?_
  refine g_is (nI ni) hni ?_
  refine g_bipush 8 C dX0_picture_4 (by decide) ?_
  refine g_icmp_lt 19 C dX0_picture_6 (by decide) (fun c_6_1 => ?_) (fun c_6_1 => ?_)
  ·
    have d_6_1 : ni < 8 := (nI_ltI (a := ni) (b := 8) (by omega) (by omega)).mp c_6_1
    refine g_aload_n 0 C rfl dX0_picture_19 rfl ?_
    refine g_dup C dX0_picture_20 rfl ?_
    refine g_get (C0 := RX0) (T := TX0) (N := 17) 0 0 3 (.int (σ.1 3)) C hin rfl rfl (by decide) (by decide +kernel) rfl dX0_picture_21 ?_
    refine g_is (nI ni) hni ?_
    refine g_iconst 1 C dX0_picture_24 (by decide) ?_
    refine g_iaddN ni 1 C dX0_picture_25 ?_
    refine g_put (C0 := RX0) (T := TX0) (N := 17) 0 0 3 (wA cI h (sS σ 3 (nI (ni + 1)))) C hin tyX0_ok nmX0 rfl rfl (by decide) (by decide +kernel) rfl (by decide +kernel) (Nat.le_of_ble_eq_true rfl) rfl dX0_picture_26 ?_
    refine g_aload_n 0 C rfl dX0_picture_29 rfl ?_
    refine g_get (C0 := RX0) (T := TX0) (N := 17) 0 0 3 (.int (nI (ni + 1))) C hin rfl rfl (by decide) (by decide +kernel) rfl dX0_picture_30 ?_
    refine g_iconst 1 C dX0_picture_33 (by decide) ?_
    refine g_isubN (ni + 1) 1 C (by omega) dX0_picture_34 ?_
    obtain rfl : K = 0 := hK.trans (by simp [th_picture, c_6_1])
    exact g_iret C hr rfl dX0_picture_35 (Nat.zero_le _) (Nat.zero_le _) rfl rfl rfl
  ·
    have d_6_1 : ¬ ni < 8 := fun q => c_6_1 ((nI_ltI (a := ni) (b := 8) (by omega) (by omega)).mpr q)
    obtain rfl : K = 3 := hK.trans (by simp [th_picture, c_6_1])
    exact g_throw (cls := eISE) (text := "no more pictures") C hst rfl (by decide +kernel) (by decide +kernel) (by decide +kernel) (by decide +kernel) (by decide +kernel) (by decide +kernel) (by decide +kernel) hout dX0_picture_9 dX0_picture_12 dX0_picture_13 dX0_picture_15 dX0_picture_18 (by decide) (by decide) (by decide) (by decide) (by decide) (by decide) rfl
set_option maxRecDepth 100000 in
set_option maxHeartbeats 4000000 in
theorem c_squeeze (l : Launch) (D : va_G) (cI cJ : ClassId) (hst : l.stackTraces = false) (h : Nat → Nat) (σ : gS) (np nt no ni : Nat) (hI : iA σ np nt no ni) (x t g : Int32) (K : Nat) (hK : K = th_squeeze σ nt no x t g) : MC l yX0_squeeze wsX0_squeeze 7 112 D (tyIJ cI cJ) [.ref (h 0), .int (x), .int (t), .int (g)] (wA cI h σ) (wA cI h (s_squeeze σ (cl x) (cl t) g)) (exT K) (some (.int (σ.2 2 (cl t) - g))) (nT K) := by
  have hI0 := hI
  obtain ⟨⟨hnp, hnp6⟩, ⟨hnt, hnt12⟩, ⟨hno, hno10⟩, ⟨hni, hni8⟩, hPT, hLC, hLH⟩ := hI
  refine MC.ofG (cc := cX0_squeeze) (maxL := 4) (ret := (some .int)) [(0, .ref (h 0)), (1, .int (x)), (2, .int (t)), (3, .int (g))] (by decide) rfl (Nat.le_of_ble_eq_true rfl) rfl ?_
  intro p e s m args below meth c C hr hout
  have hin : ∀ w ∈ wsX00, w ∈ wsX0_squeeze := fun w h => by first | exact List.mem_cons_of_mem _ (List.mem_append_right _ h) | exact List.mem_cons_of_mem _ (List.mem_append_left _ (List.mem_append_right _ h)) | exact List.mem_cons_of_mem _ (List.mem_append_left _ (List.mem_append_left _ (List.mem_append_right _ h))) | exact List.mem_cons_of_mem _ (List.mem_append_left _ (List.mem_append_left _ (List.mem_append_left _ (List.mem_append_right _ h)))) | exact List.mem_cons_of_mem _ (List.mem_append_left _ (List.mem_append_left _ (List.mem_append_left _ (List.mem_append_left _ (List.mem_append_right _ h)))))
  refine g_iload_n 1 C rfl dX0_squeeze_0 rfl ?_
  refine g_aload_n 0 C rfl dX0_squeeze_1 rfl ?_
  refine g_get (C0 := RX0) (T := TX0) (N := 17) 0 0 2 (.int (σ.1 2)) C hin rfl rfl (by decide) (by decide +kernel) rfl dX0_squeeze_2 ?_
  refine g_is (nI no) hno ?_
  by_cases c_5_1 : bad x (nI (no))
  ·
    obtain rfl : K = 1 := hK.trans (by simp [th_squeeze, c_5_1])
    exact g_callSX (na := 2) (av := [.int (x), .int (nI (no))]) (c_checkNumber l D cI cJ hst _ x (nI (no)) 1 (if_pos c_5_1).symm) C gX0_squeeze_X0_checkNumber rfl (by decide +kernel) rfl ⟨by decide, by decide⟩ rfl (Nat.le_of_ble_eq_true rfl) ⟨by decide, by decide⟩ hout (by decide) (by decide) rfl dX0_squeeze_5
  refine g_callS0 (na := 2) (av := [.int (x), .int (nI (no))]) (c_checkNumber l D cI cJ hst _ x (nI (no)) 0 (if_neg c_5_1).symm) C gX0_squeeze_X0_checkNumber rfl (by decide +kernel) rfl ⟨Nat.le_of_ble_eq_true rfl, Nat.le_of_ble_eq_true rfl⟩ rfl (Nat.le_of_ble_eq_true rfl) ⟨Nat.zero_le _, Nat.zero_le _⟩ rfl dX0_squeeze_5 ?_
  obtain ⟨x', hx', rfl⟩ := nb_of (N := no) rfl (by omega) c_5_1
  have kx' : cl (nI x') = x' := cl_nI (by omega)
  refine g_iload_n 2 C rfl dX0_squeeze_8 rfl ?_
  refine g_aload_n 0 C rfl dX0_squeeze_9 rfl ?_
  refine g_get (C0 := RX0) (T := TX0) (N := 17) 0 0 1 (.int (σ.1 1)) C hin rfl rfl (by decide) (by decide +kernel) rfl dX0_squeeze_10 ?_
  refine g_is (nI nt) hnt ?_
  by_cases c_13_2 : bad t (nI (nt))
  ·
    obtain rfl : K = 1 := hK.trans (by simp [th_squeeze, c_5_1, c_13_2, kx'])
    exact g_callSX (na := 2) (av := [.int (t), .int (nI (nt))]) (c_checkNumber l D cI cJ hst _ t (nI (nt)) 1 (if_pos c_13_2).symm) C gX0_squeeze_X0_checkNumber rfl (by decide +kernel) rfl ⟨by decide, by decide⟩ rfl (Nat.le_of_ble_eq_true rfl) ⟨by decide, by decide⟩ hout (by decide) (by decide) rfl dX0_squeeze_13
  refine g_callS0 (na := 2) (av := [.int (t), .int (nI (nt))]) (c_checkNumber l D cI cJ hst _ t (nI (nt)) 0 (if_neg c_13_2).symm) C gX0_squeeze_X0_checkNumber rfl (by decide +kernel) rfl ⟨Nat.le_of_ble_eq_true rfl, Nat.le_of_ble_eq_true rfl⟩ rfl (Nat.le_of_ble_eq_true rfl) ⟨Nat.zero_le _, Nat.zero_le _⟩ rfl dX0_squeeze_13 ?_
  obtain ⟨t', ht', rfl⟩ := nb_of (N := nt) rfl (by omega) c_13_2
  have kt' : cl (nI t') = t' := cl_nI (by omega)
  refine g_iload_n 3 C rfl dX0_squeeze_16 rfl ?_
  refine g_iconst 1 C dX0_squeeze_17 (by decide) ?_
  refine g_sipush 1000 C dX0_squeeze_18 (by decide) ?_
  by_cases c_21_3 : out (g) (1) (1000)
  ·
    obtain rfl : K = 2 := hK.trans (by simp [th_squeeze, c_5_1, c_13_2, c_21_3, kx', kt'])
    exact g_callSX (na := 3) (av := [.int (g), .int (1), .int (1000)]) (c_checkRange l D cI cJ hst _ (g) (1) (1000) 2 (if_pos c_21_3).symm) C gX0_squeeze_X0_checkRange rfl (by decide +kernel) rfl ⟨by decide, by decide⟩ rfl (Nat.le_of_ble_eq_true rfl) ⟨by decide, by decide⟩ hout (by decide) (by decide) rfl dX0_squeeze_21
  refine g_callS0 (na := 3) (av := [.int (g), .int (1), .int (1000)]) (c_checkRange l D cI cJ hst _ (g) (1) (1000) 0 (if_neg c_21_3).symm) C gX0_squeeze_X0_checkRange rfl (by decide +kernel) rfl ⟨Nat.le_of_ble_eq_true rfl, Nat.le_of_ble_eq_true rfl⟩ rfl (Nat.le_of_ble_eq_true rfl) ⟨Nat.zero_le _, Nat.zero_le _⟩ rfl dX0_squeeze_21 ?_
  have hg1 := out_lo c_21_3
  refine g_aload_n 0 C rfl dX0_squeeze_24 rfl ?_
  refine g_get (C0 := RX0) (T := TX0) (N := 17) 0 0 7 (.ref (h 3)) C hin rfl rfl (by decide) (by decide +kernel) rfl dX0_squeeze_25 ?_
  refine g_iload_n 2 C rfl dX0_squeeze_28 rfl ?_
  refine g_ialdN (cA := cI) (n := 12) (a := h 3) (f := σ.2 2) t' 3 0 C rfl rfl (by omega) (by decide) dX0_squeeze_29 ?_
  refine g_iload_n 3 C rfl dX0_squeeze_30 rfl ?_
  refine g_icmp_ge 44 C dX0_squeeze_31 (by decide) (fun c_31_4 => ?_) (fun c_31_4 => ?_)
  ·
    refine g_aload_n 0 C rfl dX0_squeeze_44 rfl ?_
    refine g_get (C0 := RX0) (T := TX0) (N := 17) 0 0 7 (.ref (h 3)) C hin rfl rfl (by decide) (by decide +kernel) rfl dX0_squeeze_45 ?_
    refine g_iload_n 2 C rfl dX0_squeeze_48 rfl ?_
    refine g_dup2 C dX0_squeeze_49 rfl rfl ?_
    refine g_ialdN (cA := cI) (n := 12) (a := h 3) (f := σ.2 2) t' 3 0 C rfl rfl (by omega) (by decide) dX0_squeeze_50 ?_
    refine g_iload_n 3 C rfl dX0_squeeze_51 rfl ?_
    refine g_isub C dX0_squeeze_52 ?_
    refine g_iastN (cA := cI) (n := 12) (a := h 3) (f := σ.2 2) (x := ((σ.2 2 t') - g)) t' 3 0 (wA cI h (sA σ 2 (upd (σ.2 2) t' (((σ.2 2 t') - g))))) C rfl rfl (by omega) (by decide) rfl dX0_squeeze_53 ?_
    refine g_aload_n 0 C rfl dX0_squeeze_54 rfl ?_
    refine g_get (C0 := RX0) (T := TX0) (N := 17) 0 0 8 (.ref (h 4)) C hin rfl rfl (by decide) (by decide +kernel) rfl dX0_squeeze_55 ?_
    refine g_iload_n 1 C rfl dX0_squeeze_58 rfl ?_
    refine g_callS0 (na := 1) (av := [.int (nI (x'))]) (c_potRow l D cI cJ _ (nI (x'))) C gX0_squeeze_X0_potRow rfl (by decide +kernel) rfl ⟨Nat.le_of_ble_eq_true rfl, Nat.le_of_ble_eq_true rfl⟩ rfl (Nat.le_of_ble_eq_true rfl) ⟨Nat.zero_le _, Nat.zero_le _⟩ rfl dX0_squeeze_59 ?_
    refine g_iload_n 2 C rfl dX0_squeeze_62 rfl ?_
    refine g_callS0 (na := 2) (av := [.int (nI (x')), .int (nI (t'))]) (c_place l D cI cJ _ x' t') C gX0_squeeze_X0_place rfl (by decide +kernel) rfl ⟨Nat.le_of_ble_eq_true rfl, Nat.le_of_ble_eq_true rfl⟩ rfl (Nat.le_of_ble_eq_true rfl) ⟨Nat.zero_le _, Nat.zero_le _⟩ rfl dX0_squeeze_63 ?_
    refine g_dup2 C dX0_squeeze_66 rfl rfl ?_
    refine g_ialdN (cA := cI) (n := 1284) (a := h 4) (f := σ.2 3) (x' * 12 + t') 4 0 C rfl rfl (by omega) (by decide) dX0_squeeze_67 ?_
    refine g_iload_n 3 C rfl dX0_squeeze_68 rfl ?_
    refine g_iadd C dX0_squeeze_69 ?_
    refine g_iastN (cA := cI) (n := 1284) (a := h 4) (f := σ.2 3) (x := ((σ.2 3 (x' * 12 + t')) + g)) (x' * 12 + t') 4 0 (wA cI h (sA (sA σ 2 (upd (σ.2 2) t' (((σ.2 2 t') - g)))) 3 (upd (σ.2 3) (x' * 12 + t') (((σ.2 3 (x' * 12 + t')) + g))))) C rfl rfl (by omega) (by decide) rfl dX0_squeeze_70 ?_
    refine g_aload_n 0 C rfl dX0_squeeze_71 rfl ?_
    refine g_get (C0 := RX0) (T := TX0) (N := 17) 0 0 7 (.ref (h 3)) C hin rfl rfl (by decide) (by decide +kernel) rfl dX0_squeeze_72 ?_
    refine g_iload_n 2 C rfl dX0_squeeze_75 rfl ?_
    refine g_ialdN (cA := cI) (n := 12) (a := h 3) (f := upd (σ.2 2) t' (((σ.2 2 t') - g))) t' 3 0 C rfl rfl (by omega) (by decide) dX0_squeeze_76 ?_
    refine g_is (((σ.2 2 t') - g)) pk_us ?_
    obtain rfl : K = 0 := hK.trans (by simp [th_squeeze, c_5_1, c_13_2, c_21_3, c_31_4, kx', kt'])
    exact g_iret C hr rfl dX0_squeeze_77 (Nat.zero_le _) (Nat.zero_le _) rfl (by rw [kt']) (by rw [kx', kt']; rfl)
  ·
    obtain rfl : K = 3 := hK.trans (by simp [th_squeeze, c_5_1, c_13_2, c_21_3, c_31_4, kx', kt'])
    exact g_throw (cls := eISE) (text := "the tube has not so much") C hst rfl (by decide +kernel) (by decide +kernel) (by decide +kernel) (by decide +kernel) (by decide +kernel) (by decide +kernel) (by decide +kernel) hout dX0_squeeze_34 dX0_squeeze_37 dX0_squeeze_38 dX0_squeeze_40 dX0_squeeze_43 (by decide) (by decide) (by decide) (by decide) (by decide) (by decide) rfl
set_option maxRecDepth 100000 in
set_option maxHeartbeats 4000000 in
theorem c_pour (l : Launch) (D : va_G) (cI cJ : ClassId) (hst : l.stackTraces = false) (h : Nat → Nat) (σ : gS) (np nt no ni : Nat) (hI : iA σ np nt no ni) (x y g : Int32) (K : Nat) (hK : K = th_pour σ nt no x y g) : MC l yX0_pour wsX0_pour 7 112 D (tyIJ cI cJ) [.ref (h 0), .int (x), .int (y), .int (g)] (wA cI h σ) (wA cI h (sA σ 3 (mvS σ nt (cl x) (cl y) g))) (exT K) (some (.int (rowS (mvS σ nt (cl x) (cl y) g) (cl y) nt))) (nT K) := by
  have hI0 := hI
  obtain ⟨⟨hnp, hnp6⟩, ⟨hnt, hnt12⟩, ⟨hno, hno10⟩, ⟨hni, hni8⟩, hPT, hLC, hLH⟩ := hI
  refine MC.ofG (cc := cX0_pour) (maxL := 4) (ret := (some .int)) [(0, .ref (h 0)), (1, .int (x)), (2, .int (y)), (3, .int (g))] (by decide) rfl (Nat.le_of_ble_eq_true rfl) rfl ?_
  intro p e s m args below meth c C hr hout
  have hin : ∀ w ∈ wsX00, w ∈ wsX0_pour := fun w h => by first | exact List.mem_cons_of_mem _ (List.mem_append_right _ h) | exact List.mem_cons_of_mem _ (List.mem_append_left _ (List.mem_append_right _ h)) | exact List.mem_cons_of_mem _ (List.mem_append_left _ (List.mem_append_left _ (List.mem_append_right _ h))) | exact List.mem_cons_of_mem _ (List.mem_append_left _ (List.mem_append_left _ (List.mem_append_left _ (List.mem_append_right _ h)))) | exact List.mem_cons_of_mem _ (List.mem_append_left _ (List.mem_append_left _ (List.mem_append_left _ (List.mem_append_left _ (List.mem_append_right _ h)))))
  refine g_iload_n 1 C rfl dX0_pour_0 rfl ?_
  refine g_aload_n 0 C rfl dX0_pour_1 rfl ?_
  refine g_get (C0 := RX0) (T := TX0) (N := 17) 0 0 2 (.int (σ.1 2)) C hin rfl rfl (by decide) (by decide +kernel) rfl dX0_pour_2 ?_
  refine g_is (nI no) hno ?_
  by_cases c_5_1 : bad x (nI (no))
  ·
    obtain rfl : K = 1 := hK.trans (by simp [th_pour, c_5_1])
    exact g_callSX (na := 2) (av := [.int (x), .int (nI (no))]) (c_checkNumber l D cI cJ hst _ x (nI (no)) 1 (if_pos c_5_1).symm) C gX0_pour_X0_checkNumber rfl (by decide +kernel) rfl ⟨by decide, by decide⟩ rfl (Nat.le_of_ble_eq_true rfl) ⟨by decide, by decide⟩ hout (by decide) (by decide) rfl dX0_pour_5
  refine g_callS0 (na := 2) (av := [.int (x), .int (nI (no))]) (c_checkNumber l D cI cJ hst _ x (nI (no)) 0 (if_neg c_5_1).symm) C gX0_pour_X0_checkNumber rfl (by decide +kernel) rfl ⟨Nat.le_of_ble_eq_true rfl, Nat.le_of_ble_eq_true rfl⟩ rfl (Nat.le_of_ble_eq_true rfl) ⟨Nat.zero_le _, Nat.zero_le _⟩ rfl dX0_pour_5 ?_
  obtain ⟨x', hx', rfl⟩ := nb_of (N := no) rfl (by omega) c_5_1
  have kx' : cl (nI x') = x' := cl_nI (by omega)
  refine g_iload_n 2 C rfl dX0_pour_8 rfl ?_
  refine g_aload_n 0 C rfl dX0_pour_9 rfl ?_
  refine g_get (C0 := RX0) (T := TX0) (N := 17) 0 0 2 (.int (σ.1 2)) C hin rfl rfl (by decide) (by decide +kernel) rfl dX0_pour_10 ?_
  refine g_is (nI no) hno ?_
  by_cases c_13_2 : bad y (nI (no))
  ·
    obtain rfl : K = 1 := hK.trans (by simp [th_pour, c_5_1, c_13_2, kx'])
    exact g_callSX (na := 2) (av := [.int (y), .int (nI (no))]) (c_checkNumber l D cI cJ hst _ y (nI (no)) 1 (if_pos c_13_2).symm) C gX0_pour_X0_checkNumber rfl (by decide +kernel) rfl ⟨by decide, by decide⟩ rfl (Nat.le_of_ble_eq_true rfl) ⟨by decide, by decide⟩ hout (by decide) (by decide) rfl dX0_pour_13
  refine g_callS0 (na := 2) (av := [.int (y), .int (nI (no))]) (c_checkNumber l D cI cJ hst _ y (nI (no)) 0 (if_neg c_13_2).symm) C gX0_pour_X0_checkNumber rfl (by decide +kernel) rfl ⟨Nat.le_of_ble_eq_true rfl, Nat.le_of_ble_eq_true rfl⟩ rfl (Nat.le_of_ble_eq_true rfl) ⟨Nat.zero_le _, Nat.zero_le _⟩ rfl dX0_pour_13 ?_
  obtain ⟨y', hy', rfl⟩ := nb_of (N := no) rfl (by omega) c_13_2
  have ky' : cl (nI y') = y' := cl_nI (by omega)
  refine g_iload_n 1 C rfl dX0_pour_16 rfl ?_
  refine g_iload_n 2 C rfl dX0_pour_17 rfl ?_
  refine g_icmp_ne 31 C dX0_pour_18 (by decide) (fun c_18_3 => ?_) (fun c_18_3 => ?_)
  ·
    have d_18_3 : ¬ x' = y' := fun q => c_18_3 ((nI_eq (a := x') (b := y') (by omega) (by omega)).mpr q)
    refine g_iload_n 3 C rfl dX0_pour_31 rfl ?_
    refine g_iconst 1 C dX0_pour_32 (by decide) ?_
    refine g_sipush 12000 C dX0_pour_33 (by decide) ?_
    by_cases c_36_4 : out (g) (1) (12000)
    ·
      obtain rfl : K = 2 := hK.trans (by simp [th_pour, c_5_1, c_13_2, c_18_3, c_36_4, kx', ky'])
      exact g_callSX (na := 3) (av := [.int (g), .int (1), .int (12000)]) (c_checkRange l D cI cJ hst _ (g) (1) (12000) 2 (if_pos c_36_4).symm) C gX0_pour_X0_checkRange rfl (by decide +kernel) rfl ⟨by decide, by decide⟩ rfl (Nat.le_of_ble_eq_true rfl) ⟨by decide, by decide⟩ hout (by decide) (by decide) rfl dX0_pour_36
    refine g_callS0 (na := 3) (av := [.int (g), .int (1), .int (12000)]) (c_checkRange l D cI cJ hst _ (g) (1) (12000) 0 (if_neg c_36_4).symm) C gX0_pour_X0_checkRange rfl (by decide +kernel) rfl ⟨Nat.le_of_ble_eq_true rfl, Nat.le_of_ble_eq_true rfl⟩ rfl (Nat.le_of_ble_eq_true rfl) ⟨Nat.zero_le _, Nat.zero_le _⟩ rfl dX0_pour_36 ?_
    have hg1 := out_lo c_36_4
    refine g_aload_n 0 C rfl dX0_pour_39 rfl ?_
    refine g_iload_n 1 C rfl dX0_pour_40 rfl ?_
    refine g_callS0 (na := 1) (av := [.int (nI (x'))]) (c_potRow l D cI cJ _ (nI (x'))) C gX0_pour_X0_potRow rfl (by decide +kernel) rfl ⟨Nat.le_of_ble_eq_true rfl, Nat.le_of_ble_eq_true rfl⟩ rfl (Nat.le_of_ble_eq_true rfl) ⟨Nat.zero_le _, Nat.zero_le _⟩ rfl dX0_pour_41 ?_
    refine g_iload_n 2 C rfl dX0_pour_44 rfl ?_
    refine g_callS0 (na := 1) (av := [.int (nI (y'))]) (c_potRow l D cI cJ _ (nI (y'))) C gX0_pour_X0_potRow rfl (by decide +kernel) rfl ⟨Nat.le_of_ble_eq_true rfl, Nat.le_of_ble_eq_true rfl⟩ rfl (Nat.le_of_ble_eq_true rfl) ⟨Nat.zero_le _, Nat.zero_le _⟩ rfl dX0_pour_45 ?_
    refine g_iload_n 3 C rfl dX0_pour_48 rfl ?_
    by_cases c_49_5 : rowS (σ.2 3) x' nt < g
    ·
      refine g_callV0 (C0 := RX0) (T := TX0) (N := 17) (ci := 0) (na := 3) (As := [.int (nI (x')), .int (nI (y')), .int (g)]) (c_move_no l D cI cJ h σ np nt no ni hI0 x' y' g (by omega) (by omega) c_49_5) C gX0_pour_X0_move rfl (by decide +kernel) rfl ⟨Nat.le_of_ble_eq_true rfl, Nat.le_of_ble_eq_true rfl⟩ rfl rfl rfl (Nat.le_of_ble_eq_true rfl) ⟨Nat.zero_le _, Nat.zero_le _⟩ rfl dX0_pour_49 ?_
      refine g_if_ne 65 C dX0_pour_52 (by decide) (fun q => absurd q (by decide)) (fun _ => ?_)
      obtain rfl : K = 3 := hK.trans (by simp [th_pour, c_5_1, c_13_2, c_18_3, c_36_4, c_49_5, kx', ky'])
      exact g_throw (cls := eISE) (text := "the pot has not so much") C hst rfl (by decide +kernel) (by decide +kernel) (by decide +kernel) (by decide +kernel) (by decide +kernel) (by decide +kernel) (by decide +kernel) hout dX0_pour_55 dX0_pour_58 dX0_pour_59 dX0_pour_61 dX0_pour_64 (by decide) (by decide) (by decide) (by decide) (by decide) (by decide) rfl
    ·
      refine g_callV0 (C0 := RX0) (T := TX0) (N := 17) (ci := 0) (na := 3) (As := [.int (nI (x')), .int (nI (y')), .int (g)]) (c_move_ok l D cI cJ h σ np nt no ni hI0 x' y' g (by omega) (by omega) hg1 c_49_5) C gX0_pour_X0_move rfl (by decide +kernel) rfl ⟨Nat.le_of_ble_eq_true rfl, Nat.le_of_ble_eq_true rfl⟩ rfl rfl rfl (Nat.le_of_ble_eq_true rfl) ⟨Nat.zero_le _, Nat.zero_le _⟩ rfl dX0_pour_49 ?_
      refine g_w (wA cI h (sA σ 3 (mvS σ nt x' y' g))) rfl ?_
      refine g_if_ne 65 C dX0_pour_52 (by decide) (fun _ => ?_) (fun q => absurd q (by decide))
      refine g_aload_n 0 C rfl dX0_pour_65 rfl ?_
      refine g_iload_n 2 C rfl dX0_pour_66 rfl ?_
      refine g_callS0 (na := 1) (av := [.int (nI (y'))]) (c_potRow l D cI cJ _ (nI (y'))) C gX0_pour_X0_potRow rfl (by decide +kernel) rfl ⟨Nat.le_of_ble_eq_true rfl, Nat.le_of_ble_eq_true rfl⟩ rfl (Nat.le_of_ble_eq_true rfl) ⟨Nat.zero_le _, Nat.zero_le _⟩ rfl dX0_pour_67 ?_
      refine g_callV0 (C0 := RX0) (T := TX0) (N := 17) (ci := 0) (na := 1) (As := [.int (nI (y'))]) (c_sumOfRow l D cI cJ h (sA σ 3 (mvS σ nt x' y' g)) np nt no ni hI0 y' (by omega)) C gX0_pour_X0_sumOfRow rfl (by decide +kernel) rfl ⟨Nat.le_of_ble_eq_true rfl, Nat.le_of_ble_eq_true rfl⟩ rfl rfl rfl (Nat.le_of_ble_eq_true rfl) ⟨Nat.zero_le _, Nat.zero_le _⟩ rfl dX0_pour_70 ?_
      obtain rfl : K = 0 := hK.trans (by simp [th_pour, c_5_1, c_13_2, c_18_3, c_36_4, c_49_5, kx', ky'])
      exact g_iret C hr rfl dX0_pour_73 (Nat.zero_le _) (Nat.zero_le _) rfl (by rw [kx', ky']; rfl) (by rw [kx', ky'])
  ·
    have d_18_3 : x' = y' := (nI_eq (a := x') (b := y') (by omega) (by omega)).mp c_18_3
    obtain rfl : K = 2 := hK.trans (by simp [th_pour, c_5_1, c_13_2, c_18_3, kx', ky'])
    exact g_throw (cls := eIAE) (text := "the pots are the same") C hst rfl (by decide +kernel) (by decide +kernel) (by decide +kernel) (by decide +kernel) (by decide +kernel) (by decide +kernel) (by decide +kernel) hout dX0_pour_21 dX0_pour_24 dX0_pour_25 dX0_pour_27 dX0_pour_30 (by decide) (by decide) (by decide) (by decide) (by decide) (by decide) rfl
set_option maxRecDepth 100000 in
set_option maxHeartbeats 4000000 in
theorem c_scrape (l : Launch) (D : va_G) (cI cJ : ClassId) (hst : l.stackTraces = false) (h : Nat → Nat) (σ : gS) (np nt no ni : Nat) (hI : iA σ np nt no ni) (x : Int32) (K : Nat) (hK : K = th_scrape no x) : MC l yX0_scrape wsX0_scrape 7 111 D (tyIJ cI cJ) [.ref (h 0), .int (x)] (wA cI h σ) (wA cI h (sA σ 3 (wzL (σ.2 3) (cl x) nt))) (exT K) (some (.int (rowS (σ.2 3) (cl x) nt))) (nT K) := by
  have hI0 := hI
  obtain ⟨⟨hnp, hnp6⟩, ⟨hnt, hnt12⟩, ⟨hno, hno10⟩, ⟨hni, hni8⟩, hPT, hLC, hLH⟩ := hI
  refine MC.ofG (cc := cX0_scrape) (maxL := 2) (ret := (some .int)) [(0, .ref (h 0)), (1, .int (x))] (by decide) rfl (Nat.le_of_ble_eq_true rfl) rfl ?_
  intro p e s m args below meth c C hr hout
  have hin : ∀ w ∈ wsX00, w ∈ wsX0_scrape := fun w h => by first | exact List.mem_cons_of_mem _ (List.mem_append_right _ h) | exact List.mem_cons_of_mem _ (List.mem_append_left _ (List.mem_append_right _ h)) | exact List.mem_cons_of_mem _ (List.mem_append_left _ (List.mem_append_left _ (List.mem_append_right _ h))) | exact List.mem_cons_of_mem _ (List.mem_append_left _ (List.mem_append_left _ (List.mem_append_left _ (List.mem_append_right _ h)))) | exact List.mem_cons_of_mem _ (List.mem_append_left _ (List.mem_append_left _ (List.mem_append_left _ (List.mem_append_left _ (List.mem_append_right _ h)))))
  refine g_iload_n 1 C rfl dX0_scrape_0 rfl ?_
  refine g_aload_n 0 C rfl dX0_scrape_1 rfl ?_
  refine g_get (C0 := RX0) (T := TX0) (N := 17) 0 0 2 (.int (σ.1 2)) C hin rfl rfl (by decide) (by decide +kernel) rfl dX0_scrape_2 ?_
  refine g_is (nI no) hno ?_
  by_cases c_5_1 : bad x (nI (no))
  ·
    obtain rfl : K = 1 := hK.trans (by simp [th_scrape, c_5_1])
    exact g_callSX (na := 2) (av := [.int (x), .int (nI (no))]) (c_checkNumber l D cI cJ hst _ x (nI (no)) 1 (if_pos c_5_1).symm) C gX0_scrape_X0_checkNumber rfl (by decide +kernel) rfl ⟨by decide, by decide⟩ rfl (Nat.le_of_ble_eq_true rfl) ⟨by decide, by decide⟩ hout (by decide) (by decide) rfl dX0_scrape_5
  refine g_callS0 (na := 2) (av := [.int (x), .int (nI (no))]) (c_checkNumber l D cI cJ hst _ x (nI (no)) 0 (if_neg c_5_1).symm) C gX0_scrape_X0_checkNumber rfl (by decide +kernel) rfl ⟨Nat.le_of_ble_eq_true rfl, Nat.le_of_ble_eq_true rfl⟩ rfl (Nat.le_of_ble_eq_true rfl) ⟨Nat.zero_le _, Nat.zero_le _⟩ rfl dX0_scrape_5 ?_
  obtain ⟨x', hx', rfl⟩ := nb_of (N := no) rfl (by omega) c_5_1
  have kx' : cl (nI x') = x' := cl_nI (by omega)
  refine g_aload_n 0 C rfl dX0_scrape_8 rfl ?_
  refine g_iload_n 1 C rfl dX0_scrape_9 rfl ?_
  refine g_callS0 (na := 1) (av := [.int (nI (x'))]) (c_potRow l D cI cJ _ (nI (x'))) C gX0_scrape_X0_potRow rfl (by decide +kernel) rfl ⟨Nat.le_of_ble_eq_true rfl, Nat.le_of_ble_eq_true rfl⟩ rfl (Nat.le_of_ble_eq_true rfl) ⟨Nat.zero_le _, Nat.zero_le _⟩ rfl dX0_scrape_10 ?_
  refine g_callV0 (C0 := RX0) (T := TX0) (N := 17) (ci := 0) (na := 1) (As := [.int (nI (x'))]) (c_waste l D cI cJ h σ np nt no ni hI0 x' (by omega)) C gX0_scrape_X0_waste rfl (by decide +kernel) rfl ⟨Nat.le_of_ble_eq_true rfl, Nat.le_of_ble_eq_true rfl⟩ rfl rfl rfl (Nat.le_of_ble_eq_true rfl) ⟨Nat.zero_le _, Nat.zero_le _⟩ rfl dX0_scrape_13 ?_
  refine g_w (wA cI h (sA σ 3 (wzL (σ.2 3) x' nt))) rfl ?_
  obtain rfl : K = 0 := hK.trans (by simp [th_scrape, c_5_1, kx'])
  exact g_iret C hr rfl dX0_scrape_16 (Nat.zero_le _) (Nat.zero_le _) rfl (by rw [kx']) (by rw [kx'])
set_option maxRecDepth 100000 in
set_option maxHeartbeats 4000000 in
theorem c_paint (l : Launch) (D : va_G) (cI cJ : ClassId) (hst : l.stackTraces = false) (h : Nat → Nat) (σ : gS) (np nt no ni : Nat) (hI : iA σ np nt no ni) (q x g : Int32) (K : Nat) (hK : K = th_paint σ nt no ni q x g) : MC l yX0_paint wsX0_paint 7 112 D (tyIJ cI cJ) [.ref (h 0), .int (q), .int (x), .int (g)] (wA cI h σ) (wA cI h (s_paint σ nt (cl q) (cl x) g)) (exT K) (some (.int (nI (cl (σ.2 4 (cl q)) + 1)))) (nT K) := by
  have hI0 := hI
  obtain ⟨⟨hnp, hnp6⟩, ⟨hnt, hnt12⟩, ⟨hno, hno10⟩, ⟨hni, hni8⟩, hPT, hLC, hLH⟩ := hI
  refine MC.ofG (cc := cX0_paint) (maxL := 4) (ret := (some .int)) [(0, .ref (h 0)), (1, .int (q)), (2, .int (x)), (3, .int (g))] (by decide) rfl (Nat.le_of_ble_eq_true rfl) rfl ?_
  intro p e s m args below meth c C hr hout
  have hin : ∀ w ∈ wsX00, w ∈ wsX0_paint := fun w h => by first | exact List.mem_cons_of_mem _ (List.mem_append_right _ h) | exact List.mem_cons_of_mem _ (List.mem_append_left _ (List.mem_append_right _ h)) | exact List.mem_cons_of_mem _ (List.mem_append_left _ (List.mem_append_left _ (List.mem_append_right _ h))) | exact List.mem_cons_of_mem _ (List.mem_append_left _ (List.mem_append_left _ (List.mem_append_left _ (List.mem_append_right _ h)))) | exact List.mem_cons_of_mem _ (List.mem_append_left _ (List.mem_append_left _ (List.mem_append_left _ (List.mem_append_left _ (List.mem_append_right _ h)))))
  refine g_iload_n 1 C rfl dX0_paint_0 rfl ?_
  refine g_aload_n 0 C rfl dX0_paint_1 rfl ?_
  refine g_get (C0 := RX0) (T := TX0) (N := 17) 0 0 3 (.int (σ.1 3)) C hin rfl rfl (by decide) (by decide +kernel) rfl dX0_paint_2 ?_
  refine g_is (nI ni) hni ?_
  by_cases c_5_1 : bad q (nI (ni))
  ·
    obtain rfl : K = 1 := hK.trans (by simp [th_paint, c_5_1])
    exact g_callSX (na := 2) (av := [.int (q), .int (nI (ni))]) (c_checkNumber l D cI cJ hst _ q (nI (ni)) 1 (if_pos c_5_1).symm) C gX0_paint_X0_checkNumber rfl (by decide +kernel) rfl ⟨by decide, by decide⟩ rfl (Nat.le_of_ble_eq_true rfl) ⟨by decide, by decide⟩ hout (by decide) (by decide) rfl dX0_paint_5
  refine g_callS0 (na := 2) (av := [.int (q), .int (nI (ni))]) (c_checkNumber l D cI cJ hst _ q (nI (ni)) 0 (if_neg c_5_1).symm) C gX0_paint_X0_checkNumber rfl (by decide +kernel) rfl ⟨Nat.le_of_ble_eq_true rfl, Nat.le_of_ble_eq_true rfl⟩ rfl (Nat.le_of_ble_eq_true rfl) ⟨Nat.zero_le _, Nat.zero_le _⟩ rfl dX0_paint_5 ?_
  obtain ⟨q', hq', rfl⟩ := nb_of (N := ni) rfl (by omega) c_5_1
  have kq' : cl (nI q') = q' := cl_nI (by omega)
  refine g_iload_n 2 C rfl dX0_paint_8 rfl ?_
  refine g_aload_n 0 C rfl dX0_paint_9 rfl ?_
  refine g_get (C0 := RX0) (T := TX0) (N := 17) 0 0 2 (.int (σ.1 2)) C hin rfl rfl (by decide) (by decide +kernel) rfl dX0_paint_10 ?_
  refine g_is (nI no) hno ?_
  by_cases c_13_2 : bad x (nI (no))
  ·
    obtain rfl : K = 1 := hK.trans (by simp [th_paint, c_5_1, c_13_2, kq'])
    exact g_callSX (na := 2) (av := [.int (x), .int (nI (no))]) (c_checkNumber l D cI cJ hst _ x (nI (no)) 1 (if_pos c_13_2).symm) C gX0_paint_X0_checkNumber rfl (by decide +kernel) rfl ⟨by decide, by decide⟩ rfl (Nat.le_of_ble_eq_true rfl) ⟨by decide, by decide⟩ hout (by decide) (by decide) rfl dX0_paint_13
  refine g_callS0 (na := 2) (av := [.int (x), .int (nI (no))]) (c_checkNumber l D cI cJ hst _ x (nI (no)) 0 (if_neg c_13_2).symm) C gX0_paint_X0_checkNumber rfl (by decide +kernel) rfl ⟨Nat.le_of_ble_eq_true rfl, Nat.le_of_ble_eq_true rfl⟩ rfl (Nat.le_of_ble_eq_true rfl) ⟨Nat.zero_le _, Nat.zero_le _⟩ rfl dX0_paint_13 ?_
  obtain ⟨x', hx', rfl⟩ := nb_of (N := no) rfl (by omega) c_13_2
  have kx' : cl (nI x') = x' := cl_nI (by omega)
  refine g_iload_n 3 C rfl dX0_paint_16 rfl ?_
  refine g_iconst 1 C dX0_paint_17 (by decide) ?_
  refine g_sipush 1000 C dX0_paint_18 (by decide) ?_
  by_cases c_21_3 : out (g) (1) (1000)
  ·
    obtain rfl : K = 2 := hK.trans (by simp [th_paint, c_5_1, c_13_2, c_21_3, kq', kx'])
    exact g_callSX (na := 3) (av := [.int (g), .int (1), .int (1000)]) (c_checkRange l D cI cJ hst _ (g) (1) (1000) 2 (if_pos c_21_3).symm) C gX0_paint_X0_checkRange rfl (by decide +kernel) rfl ⟨by decide, by decide⟩ rfl (Nat.le_of_ble_eq_true rfl) ⟨by decide, by decide⟩ hout (by decide) (by decide) rfl dX0_paint_21
  refine g_callS0 (na := 3) (av := [.int (g), .int (1), .int (1000)]) (c_checkRange l D cI cJ hst _ (g) (1) (1000) 0 (if_neg c_21_3).symm) C gX0_paint_X0_checkRange rfl (by decide +kernel) rfl ⟨Nat.le_of_ble_eq_true rfl, Nat.le_of_ble_eq_true rfl⟩ rfl (Nat.le_of_ble_eq_true rfl) ⟨Nat.zero_le _, Nat.zero_le _⟩ rfl dX0_paint_21 ?_
  have hg1 := out_lo c_21_3
  refine g_aload_n 0 C rfl dX0_paint_24 rfl ?_
  refine g_iload_n 1 C rfl dX0_paint_25 rfl ?_
  by_cases c_26_4 : ¬ σ.2 7 q' ≤ 0
  ·
    obtain rfl : K = 3 := hK.trans (by simp [th_paint, c_5_1, c_13_2, c_21_3, c_26_4, kq', kx'])
    exact g_callVX (C0 := RX0) (T := TX0) (N := 17) (ci := 0) (na := 1) (As := [.int (nI (q'))]) (c_checkAtHome l D cI cJ hst h σ np nt no ni hI0 q' (by omega) 3 (if_pos c_26_4).symm) C gX0_paint_X0_checkAtHome rfl (by decide +kernel) rfl ⟨by decide, by decide⟩ rfl rfl rfl (Nat.le_of_ble_eq_true rfl) ⟨by decide, by decide⟩ hout (by decide) (by decide) rfl dX0_paint_26
  refine g_callV0 (C0 := RX0) (T := TX0) (N := 17) (ci := 0) (na := 1) (As := [.int (nI (q'))]) (c_checkAtHome l D cI cJ hst h σ np nt no ni hI0 q' (by omega) 0 (if_neg c_26_4).symm) C gX0_paint_X0_checkAtHome rfl (by decide +kernel) rfl ⟨Nat.le_of_ble_eq_true rfl, Nat.le_of_ble_eq_true rfl⟩ rfl rfl rfl (Nat.le_of_ble_eq_true rfl) ⟨Nat.zero_le _, Nat.zero_le _⟩ rfl dX0_paint_26 ?_
  refine g_aload_n 0 C rfl dX0_paint_29 rfl ?_
  refine g_get (C0 := RX0) (T := TX0) (N := 17) 0 0 9 (.ref (h 5)) C hin rfl rfl (by decide) (by decide +kernel) rfl dX0_paint_30 ?_
  refine g_iload_n 1 C rfl dX0_paint_33 rfl ?_
  refine g_ialdN (cA := cI) (n := 8) (a := h 5) (f := σ.2 4) q' 5 0 C rfl rfl (by omega) (by decide) dX0_paint_34 ?_
  obtain ⟨jL, hjL, ejL⟩ := hLC q'
  refine g_is (nI (jL)) ejL ?_
  refine g_bipush 12 C dX0_paint_35 (by decide) ?_
  refine g_icmp_lt 50 C dX0_paint_37 (by decide) (fun c_37_5 => ?_) (fun c_37_5 => ?_)
  ·
    have d_37_5 : jL < 12 := (nI_ltI (a := jL) (b := 12) (by omega) (by omega)).mp c_37_5
    refine g_aload_n 0 C rfl dX0_paint_50 rfl ?_
    refine g_iload_n 2 C rfl dX0_paint_51 rfl ?_
    refine g_callS0 (na := 1) (av := [.int (nI (x'))]) (c_potRow l D cI cJ _ (nI (x'))) C gX0_paint_X0_potRow rfl (by decide +kernel) rfl ⟨Nat.le_of_ble_eq_true rfl, Nat.le_of_ble_eq_true rfl⟩ rfl (Nat.le_of_ble_eq_true rfl) ⟨Nat.zero_le _, Nat.zero_le _⟩ rfl dX0_paint_52 ?_
    refine g_iload_n 1 C rfl dX0_paint_55 rfl ?_
    refine g_aload_n 0 C rfl dX0_paint_56 rfl ?_
    refine g_get (C0 := RX0) (T := TX0) (N := 17) 0 0 9 (.ref (h 5)) C hin rfl rfl (by decide) (by decide +kernel) rfl dX0_paint_57 ?_
    refine g_iload_n 1 C rfl dX0_paint_60 rfl ?_
    refine g_ialdN (cA := cI) (n := 8) (a := h 5) (f := σ.2 4) q' 5 0 C rfl rfl (by omega) (by decide) dX0_paint_61 ?_
    refine g_is (nI (jL)) ejL ?_
    refine g_callS0 (na := 2) (av := [.int (nI (q')), .int (nI (jL))]) (c_layerRow l D cI cJ _ q' jL) C gX0_paint_X0_layerRow rfl (by decide +kernel) rfl ⟨Nat.le_of_ble_eq_true rfl, Nat.le_of_ble_eq_true rfl⟩ rfl (Nat.le_of_ble_eq_true rfl) ⟨Nat.zero_le _, Nat.zero_le _⟩ rfl dX0_paint_62 ?_
    refine g_iload_n 3 C rfl dX0_paint_65 rfl ?_
    by_cases c_66_6 : rowS (σ.2 3) x' nt < g
    ·
      refine g_callV0 (C0 := RX0) (T := TX0) (N := 17) (ci := 0) (na := 3) (As := [.int (nI (x')), .int (nI (10 + q' * 12 + jL)), .int (g)]) (c_move_no l D cI cJ h σ np nt no ni hI0 x' (10 + q' * 12 + jL) g (by omega) (by omega) c_66_6) C gX0_paint_X0_move rfl (by decide +kernel) rfl ⟨Nat.le_of_ble_eq_true rfl, Nat.le_of_ble_eq_true rfl⟩ rfl rfl rfl (Nat.le_of_ble_eq_true rfl) ⟨Nat.zero_le _, Nat.zero_le _⟩ rfl dX0_paint_66 ?_
      refine g_if_ne 82 C dX0_paint_69 (by decide) (fun q => absurd q (by decide)) (fun _ => ?_)
      obtain rfl : K = 3 := hK.trans (by simp [th_paint, c_5_1, c_13_2, c_21_3, c_26_4, c_37_5, c_66_6, kq', kx', ejL])
      exact g_throw (cls := eISE) (text := "the pot has not so much") C hst rfl (by decide +kernel) (by decide +kernel) (by decide +kernel) (by decide +kernel) (by decide +kernel) (by decide +kernel) (by decide +kernel) hout dX0_paint_72 dX0_paint_75 dX0_paint_76 dX0_paint_78 dX0_paint_81 (by decide) (by decide) (by decide) (by decide) (by decide) (by decide) rfl
    ·
      refine g_callV0 (C0 := RX0) (T := TX0) (N := 17) (ci := 0) (na := 3) (As := [.int (nI (x')), .int (nI (10 + q' * 12 + jL)), .int (g)]) (c_move_ok l D cI cJ h σ np nt no ni hI0 x' (10 + q' * 12 + jL) g (by omega) (by omega) hg1 c_66_6) C gX0_paint_X0_move rfl (by decide +kernel) rfl ⟨Nat.le_of_ble_eq_true rfl, Nat.le_of_ble_eq_true rfl⟩ rfl rfl rfl (Nat.le_of_ble_eq_true rfl) ⟨Nat.zero_le _, Nat.zero_le _⟩ rfl dX0_paint_66 ?_
      refine g_w (wA cI h (sA σ 3 (mvS σ nt x' (10 + q' * 12 + jL) g))) rfl ?_
      refine g_if_ne 82 C dX0_paint_69 (by decide) (fun _ => ?_) (fun q => absurd q (by decide))
      refine g_aload_n 0 C rfl dX0_paint_82 rfl ?_
      refine g_get (C0 := RX0) (T := TX0) (N := 17) 0 0 9 (.ref (h 5)) C hin rfl rfl (by decide) (by decide +kernel) rfl dX0_paint_83 ?_
      refine g_iload_n 1 C rfl dX0_paint_86 rfl ?_
      refine g_dup2 C dX0_paint_87 rfl rfl ?_
      refine g_ialdN (cA := cI) (n := 8) (a := h 5) (f := σ.2 4) q' 5 0 C rfl rfl (by omega) (by decide) dX0_paint_88 ?_
      refine g_is (nI (jL)) ejL ?_
      refine g_iconst 1 C dX0_paint_89 (by decide) ?_
      refine g_iaddN jL 1 C dX0_paint_90 ?_
      refine g_iastN (cA := cI) (n := 8) (a := h 5) (f := σ.2 4) (x := nI (jL + 1)) q' 5 0 (wA cI h (sA (sA σ 3 (mvS σ nt x' (10 + q' * 12 + jL) g)) 4 (upd (σ.2 4) q' (nI (jL + 1))))) C rfl rfl (by omega) (by decide) rfl dX0_paint_91 ?_
      refine g_aload_n 0 C rfl dX0_paint_92 rfl ?_
      refine g_get (C0 := RX0) (T := TX0) (N := 17) 0 0 9 (.ref (h 5)) C hin rfl rfl (by decide) (by decide +kernel) rfl dX0_paint_93 ?_
      refine g_iload_n 1 C rfl dX0_paint_96 rfl ?_
      refine g_ialdN (cA := cI) (n := 8) (a := h 5) (f := upd (σ.2 4) q' (nI (jL + 1))) q' 5 0 C rfl rfl (by omega) (by decide) dX0_paint_97 ?_
      refine g_is (nI (jL + 1)) pk_us ?_
      obtain rfl : K = 0 := hK.trans (by simp [th_paint, c_5_1, c_13_2, c_21_3, c_26_4, c_37_5, c_66_6, kq', kx', ejL])
      exact g_iret C hr rfl dX0_paint_98 (Nat.zero_le _) (Nat.zero_le _) rfl (by rw [kq', ejL, cl_nI (by omega)]) (by rw [kq', kx']; simp only [s_paint, ejL, cl_nI (show jL < 2 ^ 31 by omega)])
  ·
    have d_37_5 : ¬ jL < 12 := fun q => c_37_5 ((nI_ltI (a := jL) (b := 12) (by omega) (by omega)).mpr q)
    obtain rfl : K = 3 := hK.trans (by simp [th_paint, c_5_1, c_13_2, c_21_3, c_26_4, c_37_5, kq', kx', ejL])
    exact g_throw (cls := eISE) (text := "no more layers") C hst rfl (by decide +kernel) (by decide +kernel) (by decide +kernel) (by decide +kernel) (by decide +kernel) (by decide +kernel) (by decide +kernel) hout dX0_paint_40 dX0_paint_43 dX0_paint_44 dX0_paint_46 dX0_paint_49 (by decide) (by decide) (by decide) (by decide) (by decide) (by decide) rfl
set_option maxRecDepth 100000 in
set_option maxHeartbeats 4000000 in
theorem c_damp (l : Launch) (D : va_G) (cI cJ : ClassId) (hst : l.stackTraces = false) (h : Nat → Nat) (σ : gS) (np nt no ni : Nat) (hI : iA σ np nt no ni) (x d : Int32) (K : Nat) (hK : K = th_damp x d) : MC l yX0_damp wsX0_damp 7 112 D (tyIJ cI cJ) [.ref (h 0), .int (x), .int (d)] (wA cI h σ) (wA cI h (sA σ 10 (upd (σ.2 10) (cl x) d))) (exT K) (some (.int (σ.2 10 (cl x)))) (nT K) := by
  have hI0 := hI
  obtain ⟨⟨hnp, hnp6⟩, ⟨hnt, hnt12⟩, ⟨hno, hno10⟩, ⟨hni, hni8⟩, hPT, hLC, hLH⟩ := hI
  refine MC.ofG (cc := cX0_damp) (maxL := 4) (ret := (some .int)) [(0, .ref (h 0)), (1, .int (x)), (2, .int (d))] (by decide) rfl (Nat.le_of_ble_eq_true rfl) rfl ?_
  intro p e s m args below meth c C hr hout
  have hin : ∀ w ∈ wsX00, w ∈ wsX0_damp := fun w h => by first | exact List.mem_cons_of_mem _ (List.mem_append_right _ h) | exact List.mem_cons_of_mem _ (List.mem_append_left _ (List.mem_append_right _ h)) | exact List.mem_cons_of_mem _ (List.mem_append_left _ (List.mem_append_left _ (List.mem_append_right _ h))) | exact List.mem_cons_of_mem _ (List.mem_append_left _ (List.mem_append_left _ (List.mem_append_left _ (List.mem_append_right _ h)))) | exact List.mem_cons_of_mem _ (List.mem_append_left _ (List.mem_append_left _ (List.mem_append_left _ (List.mem_append_left _ (List.mem_append_right _ h)))))
  refine g_iload_n 1 C rfl dX0_damp_0 rfl ?_
  refine g_iconst 4 C dX0_damp_1 (by decide) ?_
  by_cases c_2_1 : bad x (4)
  ·
    obtain rfl : K = 1 := hK.trans (by simp [th_damp, c_2_1])
    exact g_callSX (na := 2) (av := [.int (x), .int (4)]) (c_checkNumber l D cI cJ hst _ x (4) 1 (if_pos c_2_1).symm) C gX0_damp_X0_checkNumber rfl (by decide +kernel) rfl ⟨by decide, by decide⟩ rfl (Nat.le_of_ble_eq_true rfl) ⟨by decide, by decide⟩ hout (by decide) (by decide) rfl dX0_damp_2
  refine g_callS0 (na := 2) (av := [.int (x), .int (4)]) (c_checkNumber l D cI cJ hst _ x (4) 0 (if_neg c_2_1).symm) C gX0_damp_X0_checkNumber rfl (by decide +kernel) rfl ⟨Nat.le_of_ble_eq_true rfl, Nat.le_of_ble_eq_true rfl⟩ rfl (Nat.le_of_ble_eq_true rfl) ⟨Nat.zero_le _, Nat.zero_le _⟩ rfl dX0_damp_2 ?_
  obtain ⟨x', hx', rfl⟩ := nb_of (N := 4) rfl (by omega) c_2_1
  have kx' : cl (nI x') = x' := cl_nI (by omega)
  refine g_iload_n 2 C rfl dX0_damp_5 rfl ?_
  refine g_iconst 0 C dX0_damp_6 (by decide) ?_
  refine g_bipush 100 C dX0_damp_7 (by decide) ?_
  by_cases c_9_2 : out (d) (0) (100)
  ·
    obtain rfl : K = 2 := hK.trans (by simp [th_damp, c_2_1, c_9_2, kx'])
    exact g_callSX (na := 3) (av := [.int (d), .int (0), .int (100)]) (c_checkRange l D cI cJ hst _ (d) (0) (100) 2 (if_pos c_9_2).symm) C gX0_damp_X0_checkRange rfl (by decide +kernel) rfl ⟨by decide, by decide⟩ rfl (Nat.le_of_ble_eq_true rfl) ⟨by decide, by decide⟩ hout (by decide) (by decide) rfl dX0_damp_9
  refine g_callS0 (na := 3) (av := [.int (d), .int (0), .int (100)]) (c_checkRange l D cI cJ hst _ (d) (0) (100) 0 (if_neg c_9_2).symm) C gX0_damp_X0_checkRange rfl (by decide +kernel) rfl ⟨Nat.le_of_ble_eq_true rfl, Nat.le_of_ble_eq_true rfl⟩ rfl (Nat.le_of_ble_eq_true rfl) ⟨Nat.zero_le _, Nat.zero_le _⟩ rfl dX0_damp_9 ?_
  have hd1 := out_lo c_9_2
  refine g_aload_n 0 C rfl dX0_damp_12 rfl ?_
  refine g_get (C0 := RX0) (T := TX0) (N := 17) 0 0 15 (.ref (h 11)) C hin rfl rfl (by decide) (by decide +kernel) rfl dX0_damp_13 ?_
  refine g_iload_n 1 C rfl dX0_damp_16 rfl ?_
  refine g_ialdN (cA := cI) (n := 4) (a := h 11) (f := σ.2 10) x' 11 0 C rfl rfl (by omega) (by decide) dX0_damp_17 ?_
  refine g_istore_n [(3, .int (σ.2 10 x')), (0, .ref (h 0)), (1, .int (nI (x'))), (2, .int (d))] C dX0_damp_18 rfl (by decide) rfl ?_
  refine g_aload_n 1 C rfl dX0_damp_19 rfl ?_
  refine g_get (C0 := RX0) (T := TX0) (N := 17) 0 0 15 (.ref (h 11)) C hin rfl rfl (by decide) (by decide +kernel) rfl dX0_damp_20 ?_
  refine g_iload_n 2 C rfl dX0_damp_23 rfl ?_
  refine g_iload_n 3 C rfl dX0_damp_24 rfl ?_
  refine g_iastN (cA := cI) (n := 4) (a := h 11) (f := σ.2 10) (x := d) x' 11 0 (wA cI h (sA σ 10 (upd (σ.2 10) x' (d)))) C rfl rfl (by omega) (by decide) rfl dX0_damp_25 ?_
  refine g_iload_n 0 C rfl dX0_damp_26 rfl ?_
  obtain rfl : K = 0 := hK.trans (by simp [th_damp, c_2_1, c_9_2, kx'])
  exact g_iret C hr rfl dX0_damp_27 (Nat.zero_le _) (Nat.zero_le _) rfl (by rw [kx']) (by rw [kx'])
set_option maxRecDepth 100000 in
set_option maxHeartbeats 4000000 in
theorem c_lend (l : Launch) (D : va_G) (cI cJ : ClassId) (hst : l.stackTraces = false) (h : Nat → Nat) (σ : gS) (np nt no ni : Nat) (hI : iA σ np nt no ni) (q x d : Int32) (K : Nat) (hK : K = th_lend σ ni q x d) : MC l yX0_lend wsX0_lend 7 139 D (tyIJ cI cJ) [.ref (h 0), .int (q), .int (x), .int (d)] (wA cI h σ) (wA cI h (s_lend σ np nt ni (cl q) (cl x) d)) (exT K) (some (.int (valA σ np nt ni (cl q) / 100 + 1))) (nT K) := by
  have hI0 := hI
  obtain ⟨⟨hnp, hnp6⟩, ⟨hnt, hnt12⟩, ⟨hno, hno10⟩, ⟨hni, hni8⟩, hPT, hLC, hLH⟩ := hI
  refine MC.ofG (cc := cX0_lend) (maxL := 4) (ret := (some .int)) [(0, .ref (h 0)), (1, .int (q)), (2, .int (x)), (3, .int (d))] (by decide) rfl (Nat.le_of_ble_eq_true rfl) rfl ?_
  intro p e s m args below meth c C hr hout
  have hin : ∀ w ∈ wsX00, w ∈ wsX0_lend := fun w h => by first | exact List.mem_cons_of_mem _ (List.mem_append_right _ h) | exact List.mem_cons_of_mem _ (List.mem_append_left _ (List.mem_append_right _ h)) | exact List.mem_cons_of_mem _ (List.mem_append_left _ (List.mem_append_left _ (List.mem_append_right _ h))) | exact List.mem_cons_of_mem _ (List.mem_append_left _ (List.mem_append_left _ (List.mem_append_left _ (List.mem_append_right _ h)))) | exact List.mem_cons_of_mem _ (List.mem_append_left _ (List.mem_append_left _ (List.mem_append_left _ (List.mem_append_left _ (List.mem_append_right _ h)))))
  refine g_iload_n 1 C rfl dX0_lend_0 rfl ?_
  refine g_aload_n 0 C rfl dX0_lend_1 rfl ?_
  refine g_get (C0 := RX0) (T := TX0) (N := 17) 0 0 3 (.int (σ.1 3)) C hin rfl rfl (by decide) (by decide +kernel) rfl dX0_lend_2 ?_
  refine g_is (nI ni) hni ?_
  by_cases c_5_1 : bad q (nI (ni))
  ·
    obtain rfl : K = 1 := hK.trans (by simp [th_lend, c_5_1])
    exact g_callSX (na := 2) (av := [.int (q), .int (nI (ni))]) (c_checkNumber l D cI cJ hst _ q (nI (ni)) 1 (if_pos c_5_1).symm) C gX0_lend_X0_checkNumber rfl (by decide +kernel) rfl ⟨by decide, by decide⟩ rfl (Nat.le_of_ble_eq_true rfl) ⟨by decide, by decide⟩ hout (by decide) (by decide) rfl dX0_lend_5
  refine g_callS0 (na := 2) (av := [.int (q), .int (nI (ni))]) (c_checkNumber l D cI cJ hst _ q (nI (ni)) 0 (if_neg c_5_1).symm) C gX0_lend_X0_checkNumber rfl (by decide +kernel) rfl ⟨Nat.le_of_ble_eq_true rfl, Nat.le_of_ble_eq_true rfl⟩ rfl (Nat.le_of_ble_eq_true rfl) ⟨Nat.zero_le _, Nat.zero_le _⟩ rfl dX0_lend_5 ?_
  obtain ⟨q', hq', rfl⟩ := nb_of (N := ni) rfl (by omega) c_5_1
  have kq' : cl (nI q') = q' := cl_nI (by omega)
  refine g_iload_n 2 C rfl dX0_lend_8 rfl ?_
  refine g_iconst 4 C dX0_lend_9 (by decide) ?_
  by_cases c_10_2 : bad x (4)
  ·
    obtain rfl : K = 1 := hK.trans (by simp [th_lend, c_5_1, c_10_2, kq'])
    exact g_callSX (na := 2) (av := [.int (x), .int (4)]) (c_checkNumber l D cI cJ hst _ x (4) 1 (if_pos c_10_2).symm) C gX0_lend_X0_checkNumber rfl (by decide +kernel) rfl ⟨by decide, by decide⟩ rfl (Nat.le_of_ble_eq_true rfl) ⟨by decide, by decide⟩ hout (by decide) (by decide) rfl dX0_lend_10
  refine g_callS0 (na := 2) (av := [.int (x), .int (4)]) (c_checkNumber l D cI cJ hst _ x (4) 0 (if_neg c_10_2).symm) C gX0_lend_X0_checkNumber rfl (by decide +kernel) rfl ⟨Nat.le_of_ble_eq_true rfl, Nat.le_of_ble_eq_true rfl⟩ rfl (Nat.le_of_ble_eq_true rfl) ⟨Nat.zero_le _, Nat.zero_le _⟩ rfl dX0_lend_10 ?_
  obtain ⟨x', hx', rfl⟩ := nb_of (N := 4) rfl (by omega) c_10_2
  have kx' : cl (nI x') = x' := cl_nI (by omega)
  refine g_iload_n 3 C rfl dX0_lend_13 rfl ?_
  refine g_iconst 1 C dX0_lend_14 (by decide) ?_
  refine g_bipush 100 C dX0_lend_15 (by decide) ?_
  by_cases c_17_3 : out (d) (1) (100)
  ·
    obtain rfl : K = 2 := hK.trans (by simp [th_lend, c_5_1, c_10_2, c_17_3, kq', kx'])
    exact g_callSX (na := 3) (av := [.int (d), .int (1), .int (100)]) (c_checkRange l D cI cJ hst _ (d) (1) (100) 2 (if_pos c_17_3).symm) C gX0_lend_X0_checkRange rfl (by decide +kernel) rfl ⟨by decide, by decide⟩ rfl (Nat.le_of_ble_eq_true rfl) ⟨by decide, by decide⟩ hout (by decide) (by decide) rfl dX0_lend_17
  refine g_callS0 (na := 3) (av := [.int (d), .int (1), .int (100)]) (c_checkRange l D cI cJ hst _ (d) (1) (100) 0 (if_neg c_17_3).symm) C gX0_lend_X0_checkRange rfl (by decide +kernel) rfl ⟨Nat.le_of_ble_eq_true rfl, Nat.le_of_ble_eq_true rfl⟩ rfl (Nat.le_of_ble_eq_true rfl) ⟨Nat.zero_le _, Nat.zero_le _⟩ rfl dX0_lend_17 ?_
  have hd1 := out_lo c_17_3
  refine g_aload_n 0 C rfl dX0_lend_20 rfl ?_
  refine g_iload_n 1 C rfl dX0_lend_21 rfl ?_
  by_cases c_22_4 : ¬ σ.2 7 q' ≤ 0
  ·
    obtain rfl : K = 3 := hK.trans (by simp [th_lend, c_5_1, c_10_2, c_17_3, c_22_4, kq', kx'])
    exact g_callVX (C0 := RX0) (T := TX0) (N := 17) (ci := 0) (na := 1) (As := [.int (nI (q'))]) (c_checkAtHome l D cI cJ hst h σ np nt no ni hI0 q' (by omega) 3 (if_pos c_22_4).symm) C gX0_lend_X0_checkAtHome rfl (by decide +kernel) rfl ⟨by decide, by decide⟩ rfl rfl rfl (Nat.le_of_ble_eq_true rfl) ⟨by decide, by decide⟩ hout (by decide) (by decide) rfl dX0_lend_22
  refine g_callV0 (C0 := RX0) (T := TX0) (N := 17) (ci := 0) (na := 1) (As := [.int (nI (q'))]) (c_checkAtHome l D cI cJ hst h σ np nt no ni hI0 q' (by omega) 0 (if_neg c_22_4).symm) C gX0_lend_X0_checkAtHome rfl (by decide +kernel) rfl ⟨Nat.le_of_ble_eq_true rfl, Nat.le_of_ble_eq_true rfl⟩ rfl rfl rfl (Nat.le_of_ble_eq_true rfl) ⟨Nat.zero_le _, Nat.zero_le _⟩ rfl dX0_lend_22 ?_
  refine g_aload_n 0 C rfl dX0_lend_25 rfl ?_
  refine g_get (C0 := RX0) (T := TX0) (N := 17) 0 0 10 (.ref (h 6)) C hin rfl rfl (by decide) (by decide +kernel) rfl dX0_lend_26 ?_
  refine g_iload_n 1 C rfl dX0_lend_29 rfl ?_
  refine g_ialdN (cA := cI) (n := 8) (a := h 6) (f := σ.2 5) q' 6 0 C rfl rfl (by omega) (by decide) dX0_lend_30 ?_
  refine g_bipush 10 C dX0_lend_31 (by decide) ?_
  refine g_icmp_lt 46 C dX0_lend_33 (by decide) (fun c_33_5 => ?_) (fun c_33_5 => ?_)
  ·
    refine g_aload_n 0 C rfl dX0_lend_46 rfl ?_
    refine g_get (C0 := RX0) (T := TX0) (N := 17) 0 0 14 (.ref (h 10)) C hin rfl rfl (by decide) (by decide +kernel) rfl dX0_lend_47 ?_
    refine g_iload_n 1 C rfl dX0_lend_50 rfl ?_
    refine g_aload_n 0 C rfl dX0_lend_51 rfl ?_
    refine g_iload_n 1 C rfl dX0_lend_52 rfl ?_
    refine g_callV0 (C0 := RX0) (T := TX0) (N := 17) (ci := 0) (na := 1) (As := [.int (nI (q'))]) (c_valueOf l D cI cJ h σ np nt no ni hI0 q' (by omega)) C gX0_lend_X0_valueOf rfl (by decide +kernel) rfl ⟨Nat.le_of_ble_eq_true rfl, Nat.le_of_ble_eq_true rfl⟩ rfl rfl rfl (Nat.le_of_ble_eq_true rfl) ⟨Nat.zero_le _, Nat.zero_le _⟩ rfl dX0_lend_53 ?_
    refine g_bipush 100 C dX0_lend_56 (by decide) ?_
    refine g_idiv C (by decide) dX0_lend_58 ?_
    refine g_iconst 1 C dX0_lend_59 (by decide) ?_
    refine g_iadd C dX0_lend_60 ?_
    refine g_iastN (cA := cI) (n := 8) (a := h 10) (f := σ.2 9) (x := (((valA σ np nt ni q') / 100) + 1)) q' 10 0 (wA cI h (sA σ 9 (upd (σ.2 9) q' ((((valA σ np nt ni q') / 100) + 1))))) C rfl rfl (by omega) (by decide) rfl dX0_lend_61 ?_
    refine g_aload_n 0 C rfl dX0_lend_62 rfl ?_
    refine g_get (C0 := RX0) (T := TX0) (N := 17) 0 0 13 (.ref (h 9)) C hin rfl rfl (by decide) (by decide +kernel) rfl dX0_lend_63 ?_
    refine g_iload_n 1 C rfl dX0_lend_66 rfl ?_
    refine g_iload_n 2 C rfl dX0_lend_67 rfl ?_
    refine g_iastN (cA := cI) (n := 8) (a := h 9) (f := σ.2 8) (x := nI (x')) q' 9 0 (wA cI h (sA (sA σ 9 (upd (σ.2 9) q' ((((valA σ np nt ni q') / 100) + 1)))) 8 (upd (σ.2 8) q' (nI (x'))))) C rfl rfl (by omega) (by decide) rfl dX0_lend_68 ?_
    refine g_aload_n 0 C rfl dX0_lend_69 rfl ?_
    refine g_get (C0 := RX0) (T := TX0) (N := 17) 0 0 12 (.ref (h 8)) C hin rfl rfl (by decide) (by decide +kernel) rfl dX0_lend_70 ?_
    refine g_iload_n 1 C rfl dX0_lend_73 rfl ?_
    refine g_iload_n 3 C rfl dX0_lend_74 rfl ?_
    refine g_iastN (cA := cI) (n := 8) (a := h 8) (f := σ.2 7) (x := d) q' 8 0 (wA cI h (sA (sA (sA σ 9 (upd (σ.2 9) q' ((((valA σ np nt ni q') / 100) + 1)))) 8 (upd (σ.2 8) q' (nI (x')))) 7 (upd (σ.2 7) q' (d)))) C rfl rfl (by omega) (by decide) rfl dX0_lend_75 ?_
    refine g_aload_n 0 C rfl dX0_lend_76 rfl ?_
    refine g_get (C0 := RX0) (T := TX0) (N := 17) 0 0 14 (.ref (h 10)) C hin rfl rfl (by decide) (by decide +kernel) rfl dX0_lend_77 ?_
    refine g_iload_n 1 C rfl dX0_lend_80 rfl ?_
    refine g_ialdN (cA := cI) (n := 8) (a := h 10) (f := upd (σ.2 9) q' ((((valA σ np nt ni q') / 100) + 1))) q' 10 0 C rfl rfl (by omega) (by decide) dX0_lend_81 ?_
    refine g_is ((((valA σ np nt ni q') / 100) + 1)) pk_us ?_
    obtain rfl : K = 0 := hK.trans (by simp [th_lend, c_5_1, c_10_2, c_17_3, c_22_4, c_33_5, kq', kx'])
    exact g_iret C hr rfl dX0_lend_82 (Nat.zero_le _) (Nat.zero_le _) rfl (by rw [kq']) (by rw [kq', kx']; rfl)
  ·
    obtain rfl : K = 3 := hK.trans (by simp [th_lend, c_5_1, c_10_2, c_17_3, c_22_4, c_33_5, kq', kx'])
    exact g_throw (cls := eISE) (text := "the picture has too many cracks") C hst rfl (by decide +kernel) (by decide +kernel) (by decide +kernel) (by decide +kernel) (by decide +kernel) (by decide +kernel) (by decide +kernel) hout dX0_lend_36 dX0_lend_39 dX0_lend_40 dX0_lend_42 dX0_lend_45 (by decide) (by decide) (by decide) (by decide) (by decide) (by decide) rfl
set_option maxRecDepth 100000 in
set_option maxHeartbeats 4000000 in
theorem c_sell (l : Launch) (D : va_G) (cI cJ : ClassId) (hst : l.stackTraces = false) (h : Nat → Nat) (σ : gS) (np nt no ni : Nat) (hI : iA σ np nt no ni) (q x : Int32) (K : Nat) (hK : K = th_sell σ ni q x) : MC l yX0_sell wsX0_sell 7 139 D (tyIJ cI cJ) [.ref (h 0), .int (q), .int (x)] (wA cI h σ) (wA cI h (s_sell σ (cl q) x)) (exT K) (some (.int (valA (s_sell σ (cl q) x) np nt ni (cl q)))) (nT K) := by
  have hI0 := hI
  obtain ⟨⟨hnp, hnp6⟩, ⟨hnt, hnt12⟩, ⟨hno, hno10⟩, ⟨hni, hni8⟩, hPT, hLC, hLH⟩ := hI
  refine MC.ofG (cc := cX0_sell) (maxL := 3) (ret := (some .int)) [(0, .ref (h 0)), (1, .int (q)), (2, .int (x))] (by decide) rfl (Nat.le_of_ble_eq_true rfl) rfl ?_
  intro p e s m args below meth c C hr hout
  have hin : ∀ w ∈ wsX00, w ∈ wsX0_sell := fun w h => by first | exact List.mem_cons_of_mem _ (List.mem_append_right _ h) | exact List.mem_cons_of_mem _ (List.mem_append_left _ (List.mem_append_right _ h)) | exact List.mem_cons_of_mem _ (List.mem_append_left _ (List.mem_append_left _ (List.mem_append_right _ h))) | exact List.mem_cons_of_mem _ (List.mem_append_left _ (List.mem_append_left _ (List.mem_append_left _ (List.mem_append_right _ h)))) | exact List.mem_cons_of_mem _ (List.mem_append_left _ (List.mem_append_left _ (List.mem_append_left _ (List.mem_append_left _ (List.mem_append_right _ h)))))
  refine g_iload_n 1 C rfl dX0_sell_0 rfl ?_
  refine g_aload_n 0 C rfl dX0_sell_1 rfl ?_
  refine g_get (C0 := RX0) (T := TX0) (N := 17) 0 0 3 (.int (σ.1 3)) C hin rfl rfl (by decide) (by decide +kernel) rfl dX0_sell_2 ?_
  refine g_is (nI ni) hni ?_
  by_cases c_5_1 : bad q (nI (ni))
  ·
    obtain rfl : K = 1 := hK.trans (by simp [th_sell, c_5_1])
    exact g_callSX (na := 2) (av := [.int (q), .int (nI (ni))]) (c_checkNumber l D cI cJ hst _ q (nI (ni)) 1 (if_pos c_5_1).symm) C gX0_sell_X0_checkNumber rfl (by decide +kernel) rfl ⟨by decide, by decide⟩ rfl (Nat.le_of_ble_eq_true rfl) ⟨by decide, by decide⟩ hout (by decide) (by decide) rfl dX0_sell_5
  refine g_callS0 (na := 2) (av := [.int (q), .int (nI (ni))]) (c_checkNumber l D cI cJ hst _ q (nI (ni)) 0 (if_neg c_5_1).symm) C gX0_sell_X0_checkNumber rfl (by decide +kernel) rfl ⟨Nat.le_of_ble_eq_true rfl, Nat.le_of_ble_eq_true rfl⟩ rfl (Nat.le_of_ble_eq_true rfl) ⟨Nat.zero_le _, Nat.zero_le _⟩ rfl dX0_sell_5 ?_
  obtain ⟨q', hq', rfl⟩ := nb_of (N := ni) rfl (by omega) c_5_1
  have kq' : cl (nI q') = q' := cl_nI (by omega)
  refine g_iload_n 2 C rfl dX0_sell_8 rfl ?_
  refine g_iconst 1 C dX0_sell_9 (by decide) ?_
  refine g_ldc 100000 C (by decide +kernel) dX0_sell_10 ?_
  by_cases c_12_2 : out (x) (1) (100000)
  ·
    obtain rfl : K = 2 := hK.trans (by simp [th_sell, c_5_1, c_12_2, kq'])
    exact g_callSX (na := 3) (av := [.int (x), .int (1), .int (100000)]) (c_checkRange l D cI cJ hst _ (x) (1) (100000) 2 (if_pos c_12_2).symm) C gX0_sell_X0_checkRange rfl (by decide +kernel) rfl ⟨by decide, by decide⟩ rfl (Nat.le_of_ble_eq_true rfl) ⟨by decide, by decide⟩ hout (by decide) (by decide) rfl dX0_sell_12
  refine g_callS0 (na := 3) (av := [.int (x), .int (1), .int (100000)]) (c_checkRange l D cI cJ hst _ (x) (1) (100000) 0 (if_neg c_12_2).symm) C gX0_sell_X0_checkRange rfl (by decide +kernel) rfl ⟨Nat.le_of_ble_eq_true rfl, Nat.le_of_ble_eq_true rfl⟩ rfl (Nat.le_of_ble_eq_true rfl) ⟨Nat.zero_le _, Nat.zero_le _⟩ rfl dX0_sell_12 ?_
  have hx1 := out_lo c_12_2
  refine g_aload_n 0 C rfl dX0_sell_15 rfl ?_
  refine g_iload_n 1 C rfl dX0_sell_16 rfl ?_
  by_cases c_17_3 : ¬ σ.2 7 q' ≤ 0
  ·
    obtain rfl : K = 3 := hK.trans (by simp [th_sell, c_5_1, c_12_2, c_17_3, kq'])
    exact g_callVX (C0 := RX0) (T := TX0) (N := 17) (ci := 0) (na := 1) (As := [.int (nI (q'))]) (c_checkAtHome l D cI cJ hst h σ np nt no ni hI0 q' (by omega) 3 (if_pos c_17_3).symm) C gX0_sell_X0_checkAtHome rfl (by decide +kernel) rfl ⟨by decide, by decide⟩ rfl rfl rfl (Nat.le_of_ble_eq_true rfl) ⟨by decide, by decide⟩ hout (by decide) (by decide) rfl dX0_sell_17
  refine g_callV0 (C0 := RX0) (T := TX0) (N := 17) (ci := 0) (na := 1) (As := [.int (nI (q'))]) (c_checkAtHome l D cI cJ hst h σ np nt no ni hI0 q' (by omega) 0 (if_neg c_17_3).symm) C gX0_sell_X0_checkAtHome rfl (by decide +kernel) rfl ⟨Nat.le_of_ble_eq_true rfl, Nat.le_of_ble_eq_true rfl⟩ rfl rfl rfl (Nat.le_of_ble_eq_true rfl) ⟨Nat.zero_le _, Nat.zero_le _⟩ rfl dX0_sell_17 ?_
  refine g_aload_n 0 C rfl dX0_sell_20 rfl ?_
  refine g_get (C0 := RX0) (T := TX0) (N := 17) 0 0 9 (.ref (h 5)) C hin rfl rfl (by decide) (by decide +kernel) rfl dX0_sell_21 ?_
  refine g_iload_n 1 C rfl dX0_sell_24 rfl ?_
  refine g_ialdN (cA := cI) (n := 8) (a := h 5) (f := σ.2 4) q' 5 0 C rfl rfl (by omega) (by decide) dX0_sell_25 ?_
  refine g_if_ne 39 C dX0_sell_26 (by decide) (fun c_26_4 => ?_) (fun c_26_4 => ?_)
  ·
    refine g_aload_n 0 C rfl dX0_sell_39 rfl ?_
    refine g_get (C0 := RX0) (T := TX0) (N := 17) 0 0 11 (.ref (h 7)) C hin rfl rfl (by decide) (by decide +kernel) rfl dX0_sell_40 ?_
    refine g_iload_n 1 C rfl dX0_sell_43 rfl ?_
    refine g_iload_n 2 C rfl dX0_sell_44 rfl ?_
    refine g_iastN (cA := cI) (n := 8) (a := h 7) (f := σ.2 6) (x := x) q' 7 0 (wA cI h (sA σ 6 (upd (σ.2 6) q' (x)))) C rfl rfl (by omega) (by decide) rfl dX0_sell_45 ?_
    refine g_aload_n 0 C rfl dX0_sell_46 rfl ?_
    refine g_iload_n 1 C rfl dX0_sell_47 rfl ?_
    refine g_callV0 (C0 := RX0) (T := TX0) (N := 17) (ci := 0) (na := 1) (As := [.int (nI (q'))]) (c_valueOf l D cI cJ h (sA σ 6 (upd (σ.2 6) q' (x))) np nt no ni hI0 q' (by omega)) C gX0_sell_X0_valueOf rfl (by decide +kernel) rfl ⟨Nat.le_of_ble_eq_true rfl, Nat.le_of_ble_eq_true rfl⟩ rfl rfl rfl (Nat.le_of_ble_eq_true rfl) ⟨Nat.zero_le _, Nat.zero_le _⟩ rfl dX0_sell_48 ?_
    obtain rfl : K = 0 := hK.trans (by simp [th_sell, c_5_1, c_12_2, c_17_3, c_26_4, kq'])
    exact g_iret C hr rfl dX0_sell_51 (Nat.zero_le _) (Nat.zero_le _) rfl (by rw [kq']; rfl) (by rw [kq']; rfl)
  ·
    obtain rfl : K = 3 := hK.trans (by simp [th_sell, c_5_1, c_12_2, c_17_3, c_26_4, kq'])
    exact g_throw (cls := eISE) (text := "the picture has no layer") C hst rfl (by decide +kernel) (by decide +kernel) (by decide +kernel) (by decide +kernel) (by decide +kernel) (by decide +kernel) (by decide +kernel) hout dX0_sell_29 dX0_sell_32 dX0_sell_33 dX0_sell_35 dX0_sell_38 (by decide) (by decide) (by decide) (by decide) (by decide) (by decide) rfl
set_option maxRecDepth 100000 in
set_option maxHeartbeats 4000000 in
theorem c_left (l : Launch) (D : va_G) (cI cJ : ClassId) (hst : l.stackTraces = false) (h : Nat → Nat) (σ : gS) (np nt no ni : Nat) (hI : iA σ np nt no ni) (t : Int32) (K : Nat) (hK : K = th_left nt t) : MC l yX0_left wsX0_left 7 111 D (tyIJ cI cJ) [.ref (h 0), .int (t)] (wA cI h σ) (wA cI h σ) (exT K) (some (.int (σ.2 2 (cl t)))) (nT K) := by
  have hI0 := hI
  obtain ⟨⟨hnp, hnp6⟩, ⟨hnt, hnt12⟩, ⟨hno, hno10⟩, ⟨hni, hni8⟩, hPT, hLC, hLH⟩ := hI
  refine MC.ofG (cc := cX0_left) (maxL := 2) (ret := (some .int)) [(0, .ref (h 0)), (1, .int (t))] (by decide) rfl (Nat.le_of_ble_eq_true rfl) rfl ?_
  intro p e s m args below meth c C hr hout
  have hin : ∀ w ∈ wsX00, w ∈ wsX0_left := fun w h => by first | exact List.mem_cons_of_mem _ (List.mem_append_right _ h) | exact List.mem_cons_of_mem _ (List.mem_append_left _ (List.mem_append_right _ h)) | exact List.mem_cons_of_mem _ (List.mem_append_left _ (List.mem_append_left _ (List.mem_append_right _ h))) | exact List.mem_cons_of_mem _ (List.mem_append_left _ (List.mem_append_left _ (List.mem_append_left _ (List.mem_append_right _ h)))) | exact List.mem_cons_of_mem _ (List.mem_append_left _ (List.mem_append_left _ (List.mem_append_left _ (List.mem_append_left _ (List.mem_append_right _ h)))))
  refine g_iload_n 1 C rfl dX0_left_0 rfl ?_
  refine g_aload_n 0 C rfl dX0_left_1 rfl ?_
  refine g_get (C0 := RX0) (T := TX0) (N := 17) 0 0 1 (.int (σ.1 1)) C hin rfl rfl (by decide) (by decide +kernel) rfl dX0_left_2 ?_
  refine g_is (nI nt) hnt ?_
  by_cases c_5_1 : bad t (nI (nt))
  ·
    obtain rfl : K = 1 := hK.trans (by simp [th_left, c_5_1])
    exact g_callSX (na := 2) (av := [.int (t), .int (nI (nt))]) (c_checkNumber l D cI cJ hst _ t (nI (nt)) 1 (if_pos c_5_1).symm) C gX0_left_X0_checkNumber rfl (by decide +kernel) rfl ⟨by decide, by decide⟩ rfl (Nat.le_of_ble_eq_true rfl) ⟨by decide, by decide⟩ hout (by decide) (by decide) rfl dX0_left_5
  refine g_callS0 (na := 2) (av := [.int (t), .int (nI (nt))]) (c_checkNumber l D cI cJ hst _ t (nI (nt)) 0 (if_neg c_5_1).symm) C gX0_left_X0_checkNumber rfl (by decide +kernel) rfl ⟨Nat.le_of_ble_eq_true rfl, Nat.le_of_ble_eq_true rfl⟩ rfl (Nat.le_of_ble_eq_true rfl) ⟨Nat.zero_le _, Nat.zero_le _⟩ rfl dX0_left_5 ?_
  obtain ⟨t', ht', rfl⟩ := nb_of (N := nt) rfl (by omega) c_5_1
  have kt' : cl (nI t') = t' := cl_nI (by omega)
  refine g_aload_n 0 C rfl dX0_left_8 rfl ?_
  refine g_get (C0 := RX0) (T := TX0) (N := 17) 0 0 7 (.ref (h 3)) C hin rfl rfl (by decide) (by decide +kernel) rfl dX0_left_9 ?_
  refine g_iload_n 1 C rfl dX0_left_12 rfl ?_
  refine g_ialdN (cA := cI) (n := 12) (a := h 3) (f := σ.2 2) t' 3 0 C rfl rfl (by omega) (by decide) dX0_left_13 ?_
  obtain rfl : K = 0 := hK.trans (by simp [th_left, c_5_1, kt'])
  exact g_iret C hr rfl dX0_left_14 (Nat.zero_le _) (Nat.zero_le _) rfl (by rw [kt']) rfl
set_option maxRecDepth 100000 in
set_option maxHeartbeats 4000000 in
theorem c_paid (l : Launch) (D : va_G) (cI cJ : ClassId) (hst : l.stackTraces = false) (h : Nat → Nat) (σ : gS) (np nt no ni : Nat) (hI : iA σ np nt no ni) (x : Int32) (K : Nat) (hK : K = th_paid x) : MC l yX0_paid wsX0_paid 7 111 D (tyIJ cI cJ) [.ref (h 0), .int (x)] (wA cI h σ) (wA cI h σ) (exT K) (some (.int (σ.2 11 (cl x)))) (nT K) := by
  have hI0 := hI
  obtain ⟨⟨hnp, hnp6⟩, ⟨hnt, hnt12⟩, ⟨hno, hno10⟩, ⟨hni, hni8⟩, hPT, hLC, hLH⟩ := hI
  refine MC.ofG (cc := cX0_paid) (maxL := 2) (ret := (some .int)) [(0, .ref (h 0)), (1, .int (x))] (by decide) rfl (Nat.le_of_ble_eq_true rfl) rfl ?_
  intro p e s m args below meth c C hr hout
  have hin : ∀ w ∈ wsX00, w ∈ wsX0_paid := fun w h => by first | exact List.mem_cons_of_mem _ (List.mem_append_right _ h) | exact List.mem_cons_of_mem _ (List.mem_append_left _ (List.mem_append_right _ h)) | exact List.mem_cons_of_mem _ (List.mem_append_left _ (List.mem_append_left _ (List.mem_append_right _ h))) | exact List.mem_cons_of_mem _ (List.mem_append_left _ (List.mem_append_left _ (List.mem_append_left _ (List.mem_append_right _ h)))) | exact List.mem_cons_of_mem _ (List.mem_append_left _ (List.mem_append_left _ (List.mem_append_left _ (List.mem_append_left _ (List.mem_append_right _ h)))))
  refine g_iload_n 1 C rfl dX0_paid_0 rfl ?_
  refine g_iconst 4 C dX0_paid_1 (by decide) ?_
  by_cases c_2_1 : bad x (4)
  ·
    obtain rfl : K = 1 := hK.trans (by simp [th_paid, c_2_1])
    exact g_callSX (na := 2) (av := [.int (x), .int (4)]) (c_checkNumber l D cI cJ hst _ x (4) 1 (if_pos c_2_1).symm) C gX0_paid_X0_checkNumber rfl (by decide +kernel) rfl ⟨by decide, by decide⟩ rfl (Nat.le_of_ble_eq_true rfl) ⟨by decide, by decide⟩ hout (by decide) (by decide) rfl dX0_paid_2
  refine g_callS0 (na := 2) (av := [.int (x), .int (4)]) (c_checkNumber l D cI cJ hst _ x (4) 0 (if_neg c_2_1).symm) C gX0_paid_X0_checkNumber rfl (by decide +kernel) rfl ⟨Nat.le_of_ble_eq_true rfl, Nat.le_of_ble_eq_true rfl⟩ rfl (Nat.le_of_ble_eq_true rfl) ⟨Nat.zero_le _, Nat.zero_le _⟩ rfl dX0_paid_2 ?_
  obtain ⟨x', hx', rfl⟩ := nb_of (N := 4) rfl (by omega) c_2_1
  have kx' : cl (nI x') = x' := cl_nI (by omega)
  refine g_aload_n 0 C rfl dX0_paid_5 rfl ?_
  refine g_get (C0 := RX0) (T := TX0) (N := 17) 0 0 16 (.ref (h 12)) C hin rfl rfl (by decide) (by decide +kernel) rfl dX0_paid_6 ?_
  refine g_iload_n 1 C rfl dX0_paid_9 rfl ?_
  refine g_ialdN (cA := cI) (n := 4) (a := h 12) (f := σ.2 11) x' 12 0 C rfl rfl (by omega) (by decide) dX0_paid_10 ?_
  obtain rfl : K = 0 := hK.trans (by simp [th_paid, c_2_1, kx'])
  exact g_iret C hr rfl dX0_paid_11 (Nat.zero_le _) (Nat.zero_le _) rfl (by rw [kx']) rfl
set_option maxRecDepth 100000 in
set_option maxHeartbeats 4000000 in
theorem c_colour (l : Launch) (D : va_G) (cI cJ : ClassId) (hst : l.stackTraces = false) (h : Nat → Nat) (σ : gS) (np nt no ni : Nat) (hI : iA σ np nt no ni) (x v : Int32) (K : Nat) (hK : K = th_colour no x v) : MC l yX0_colour wsX0_colour 7 112 D (tyIJ cI cJ) [.ref (h 0), .int (x), .int (v)] (wA cI h σ) (wA cI h σ) (exT K) (some (.int (colR σ nt (cl x) (cl v)))) (nT K) := by
  have hI0 := hI
  obtain ⟨⟨hnp, hnp6⟩, ⟨hnt, hnt12⟩, ⟨hno, hno10⟩, ⟨hni, hni8⟩, hPT, hLC, hLH⟩ := hI
  refine MC.ofG (cc := cX0_colour) (maxL := 3) (ret := (some .int)) [(0, .ref (h 0)), (1, .int (x)), (2, .int (v))] (by decide) rfl (Nat.le_of_ble_eq_true rfl) rfl ?_
  intro p e s m args below meth c C hr hout
  have hin : ∀ w ∈ wsX00, w ∈ wsX0_colour := fun w h => by first | exact List.mem_cons_of_mem _ (List.mem_append_right _ h) | exact List.mem_cons_of_mem _ (List.mem_append_left _ (List.mem_append_right _ h)) | exact List.mem_cons_of_mem _ (List.mem_append_left _ (List.mem_append_left _ (List.mem_append_right _ h))) | exact List.mem_cons_of_mem _ (List.mem_append_left _ (List.mem_append_left _ (List.mem_append_left _ (List.mem_append_right _ h)))) | exact List.mem_cons_of_mem _ (List.mem_append_left _ (List.mem_append_left _ (List.mem_append_left _ (List.mem_append_left _ (List.mem_append_right _ h)))))
  refine g_iload_n 1 C rfl dX0_colour_0 rfl ?_
  refine g_aload_n 0 C rfl dX0_colour_1 rfl ?_
  refine g_get (C0 := RX0) (T := TX0) (N := 17) 0 0 2 (.int (σ.1 2)) C hin rfl rfl (by decide) (by decide +kernel) rfl dX0_colour_2 ?_
  refine g_is (nI no) hno ?_
  by_cases c_5_1 : bad x (nI (no))
  ·
    obtain rfl : K = 1 := hK.trans (by simp [th_colour, c_5_1])
    exact g_callSX (na := 2) (av := [.int (x), .int (nI (no))]) (c_checkNumber l D cI cJ hst _ x (nI (no)) 1 (if_pos c_5_1).symm) C gX0_colour_X0_checkNumber rfl (by decide +kernel) rfl ⟨by decide, by decide⟩ rfl (Nat.le_of_ble_eq_true rfl) ⟨by decide, by decide⟩ hout (by decide) (by decide) rfl dX0_colour_5
  refine g_callS0 (na := 2) (av := [.int (x), .int (nI (no))]) (c_checkNumber l D cI cJ hst _ x (nI (no)) 0 (if_neg c_5_1).symm) C gX0_colour_X0_checkNumber rfl (by decide +kernel) rfl ⟨Nat.le_of_ble_eq_true rfl, Nat.le_of_ble_eq_true rfl⟩ rfl (Nat.le_of_ble_eq_true rfl) ⟨Nat.zero_le _, Nat.zero_le _⟩ rfl dX0_colour_5 ?_
  obtain ⟨x', hx', rfl⟩ := nb_of (N := no) rfl (by omega) c_5_1
  have kx' : cl (nI x') = x' := cl_nI (by omega)
  refine g_iload_n 2 C rfl dX0_colour_8 rfl ?_
  refine g_iconst 0 C dX0_colour_9 (by decide) ?_
  refine g_iconst 2 C dX0_colour_10 (by decide) ?_
  by_cases c_11_2 : out (v) (0) (2)
  ·
    obtain rfl : K = 2 := hK.trans (by simp [th_colour, c_5_1, c_11_2, kx'])
    exact g_callSX (na := 3) (av := [.int (v), .int (0), .int (2)]) (c_checkRange l D cI cJ hst _ (v) (0) (2) 2 (if_pos c_11_2).symm) C gX0_colour_X0_checkRange rfl (by decide +kernel) rfl ⟨by decide, by decide⟩ rfl (Nat.le_of_ble_eq_true rfl) ⟨by decide, by decide⟩ hout (by decide) (by decide) rfl dX0_colour_11
  refine g_callS0 (na := 3) (av := [.int (v), .int (0), .int (2)]) (c_checkRange l D cI cJ hst _ (v) (0) (2) 0 (if_neg c_11_2).symm) C gX0_colour_X0_checkRange rfl (by decide +kernel) rfl ⟨Nat.le_of_ble_eq_true rfl, Nat.le_of_ble_eq_true rfl⟩ rfl (Nat.le_of_ble_eq_true rfl) ⟨Nat.zero_le _, Nat.zero_le _⟩ rfl dX0_colour_11 ?_
  have hv1 := out_lo c_11_2
  obtain ⟨v', hv', rfl⟩ := out_nat (M := 2) rfl (by decide) c_11_2
  have kv' : cl (nI v') = v' := cl_nI (by omega)
  refine g_aload_n 0 C rfl dX0_colour_14 rfl ?_
  refine g_iload_n 1 C rfl dX0_colour_15 rfl ?_
  refine g_callS0 (na := 1) (av := [.int (nI (x'))]) (c_potRow l D cI cJ _ (nI (x'))) C gX0_colour_X0_potRow rfl (by decide +kernel) rfl ⟨Nat.le_of_ble_eq_true rfl, Nat.le_of_ble_eq_true rfl⟩ rfl (Nat.le_of_ble_eq_true rfl) ⟨Nat.zero_le _, Nat.zero_le _⟩ rfl dX0_colour_16 ?_
  refine g_iload_n 2 C rfl dX0_colour_19 rfl ?_
  refine g_callV0 (C0 := RX0) (T := TX0) (N := 17) (ci := 0) (na := 2) (As := [.int (nI (x')), .int (nI (v'))]) (c_colourOfRow l D cI cJ h σ np nt no ni hI0 x' v' (by omega) (by omega)) C gX0_colour_X0_colourOfRow rfl (by decide +kernel) rfl ⟨Nat.le_of_ble_eq_true rfl, Nat.le_of_ble_eq_true rfl⟩ rfl rfl rfl (Nat.le_of_ble_eq_true rfl) ⟨Nat.zero_le _, Nat.zero_le _⟩ rfl dX0_colour_20 ?_
  obtain rfl : K = 0 := hK.trans (by simp [th_colour, c_5_1, c_11_2, kx', kv'])
  exact g_iret C hr rfl dX0_colour_23 (Nat.zero_le _) (Nat.zero_le _) rfl (by rw [kx', kv']) rfl
set_option maxRecDepth 100000 in
set_option maxHeartbeats 4000000 in
theorem c_layer (l : Launch) (D : va_G) (cI cJ : ClassId) (hst : l.stackTraces = false) (h : Nat → Nat) (σ : gS) (np nt no ni : Nat) (hI : iA σ np nt no ni) (q k t : Int32) (K : Nat) (hK : K = th_layer σ nt ni q k t) : MC l yX0_layer wsX0_layer 7 111 D (tyIJ cI cJ) [.ref (h 0), .int (q), .int (k), .int (t)] (wA cI h σ) (wA cI h σ) (exT K) (some (.int (σ.2 3 ((10 + cl q * 12 + cl k) * 12 + cl t)))) (nT K) := by
  have hI0 := hI
  obtain ⟨⟨hnp, hnp6⟩, ⟨hnt, hnt12⟩, ⟨hno, hno10⟩, ⟨hni, hni8⟩, hPT, hLC, hLH⟩ := hI
  refine MC.ofG (cc := cX0_layer) (maxL := 4) (ret := (some .int)) [(0, .ref (h 0)), (1, .int (q)), (2, .int (k)), (3, .int (t))] (by decide) rfl (Nat.le_of_ble_eq_true rfl) rfl ?_
  intro p e s m args below meth c C hr hout
  have hin : ∀ w ∈ wsX00, w ∈ wsX0_layer := fun w h => by first | exact List.mem_cons_of_mem _ (List.mem_append_right _ h) | exact List.mem_cons_of_mem _ (List.mem_append_left _ (List.mem_append_right _ h)) | exact List.mem_cons_of_mem _ (List.mem_append_left _ (List.mem_append_left _ (List.mem_append_right _ h))) | exact List.mem_cons_of_mem _ (List.mem_append_left _ (List.mem_append_left _ (List.mem_append_left _ (List.mem_append_right _ h)))) | exact List.mem_cons_of_mem _ (List.mem_append_left _ (List.mem_append_left _ (List.mem_append_left _ (List.mem_append_left _ (List.mem_append_right _ h)))))
  refine g_iload_n 1 C rfl dX0_layer_0 rfl ?_
  refine g_aload_n 0 C rfl dX0_layer_1 rfl ?_
  refine g_get (C0 := RX0) (T := TX0) (N := 17) 0 0 3 (.int (σ.1 3)) C hin rfl rfl (by decide) (by decide +kernel) rfl dX0_layer_2 ?_
  refine g_is (nI ni) hni ?_
  by_cases c_5_1 : bad q (nI (ni))
  ·
    obtain rfl : K = 1 := hK.trans (by simp [th_layer, c_5_1])
    exact g_callSX (na := 2) (av := [.int (q), .int (nI (ni))]) (c_checkNumber l D cI cJ hst _ q (nI (ni)) 1 (if_pos c_5_1).symm) C gX0_layer_X0_checkNumber rfl (by decide +kernel) rfl ⟨by decide, by decide⟩ rfl (Nat.le_of_ble_eq_true rfl) ⟨by decide, by decide⟩ hout (by decide) (by decide) rfl dX0_layer_5
  refine g_callS0 (na := 2) (av := [.int (q), .int (nI (ni))]) (c_checkNumber l D cI cJ hst _ q (nI (ni)) 0 (if_neg c_5_1).symm) C gX0_layer_X0_checkNumber rfl (by decide +kernel) rfl ⟨Nat.le_of_ble_eq_true rfl, Nat.le_of_ble_eq_true rfl⟩ rfl (Nat.le_of_ble_eq_true rfl) ⟨Nat.zero_le _, Nat.zero_le _⟩ rfl dX0_layer_5 ?_
  obtain ⟨q', hq', rfl⟩ := nb_of (N := ni) rfl (by omega) c_5_1
  have kq' : cl (nI q') = q' := cl_nI (by omega)
  refine g_iload_n 2 C rfl dX0_layer_8 rfl ?_
  refine g_aload_n 0 C rfl dX0_layer_9 rfl ?_
  refine g_get (C0 := RX0) (T := TX0) (N := 17) 0 0 9 (.ref (h 5)) C hin rfl rfl (by decide) (by decide +kernel) rfl dX0_layer_10 ?_
  refine g_iload_n 1 C rfl dX0_layer_13 rfl ?_
  refine g_ialdN (cA := cI) (n := 8) (a := h 5) (f := σ.2 4) q' 5 0 C rfl rfl (by omega) (by decide) dX0_layer_14 ?_
  obtain ⟨jL, hjL, ejL⟩ := hLC q'
  refine g_is (nI (jL)) ejL ?_
  by_cases c_15_2 : bad k (nI (jL))
  ·
    obtain rfl : K = 1 := hK.trans (by simp [th_layer, c_5_1, c_15_2, kq', ejL])
    exact g_callSX (na := 2) (av := [.int (k), .int (nI (jL))]) (c_checkNumber l D cI cJ hst _ k (nI (jL)) 1 (if_pos c_15_2).symm) C gX0_layer_X0_checkNumber rfl (by decide +kernel) rfl ⟨by decide, by decide⟩ rfl (Nat.le_of_ble_eq_true rfl) ⟨by decide, by decide⟩ hout (by decide) (by decide) rfl dX0_layer_15
  refine g_callS0 (na := 2) (av := [.int (k), .int (nI (jL))]) (c_checkNumber l D cI cJ hst _ k (nI (jL)) 0 (if_neg c_15_2).symm) C gX0_layer_X0_checkNumber rfl (by decide +kernel) rfl ⟨Nat.le_of_ble_eq_true rfl, Nat.le_of_ble_eq_true rfl⟩ rfl (Nat.le_of_ble_eq_true rfl) ⟨Nat.zero_le _, Nat.zero_le _⟩ rfl dX0_layer_15 ?_
  obtain ⟨k', hk', rfl⟩ := nb_of (N := jL) rfl (by omega) c_15_2
  have kk' : cl (nI k') = k' := cl_nI (by omega)
  refine g_iload_n 3 C rfl dX0_layer_18 rfl ?_
  refine g_aload_n 0 C rfl dX0_layer_19 rfl ?_
  refine g_get (C0 := RX0) (T := TX0) (N := 17) 0 0 1 (.int (σ.1 1)) C hin rfl rfl (by decide) (by decide +kernel) rfl dX0_layer_20 ?_
  refine g_is (nI nt) hnt ?_
  by_cases c_23_3 : bad t (nI (nt))
  ·
    obtain rfl : K = 1 := hK.trans (by simp [th_layer, c_5_1, c_15_2, c_23_3, kq', ejL, kk'])
    exact g_callSX (na := 2) (av := [.int (t), .int (nI (nt))]) (c_checkNumber l D cI cJ hst _ t (nI (nt)) 1 (if_pos c_23_3).symm) C gX0_layer_X0_checkNumber rfl (by decide +kernel) rfl ⟨by decide, by decide⟩ rfl (Nat.le_of_ble_eq_true rfl) ⟨by decide, by decide⟩ hout (by decide) (by decide) rfl dX0_layer_23
  refine g_callS0 (na := 2) (av := [.int (t), .int (nI (nt))]) (c_checkNumber l D cI cJ hst _ t (nI (nt)) 0 (if_neg c_23_3).symm) C gX0_layer_X0_checkNumber rfl (by decide +kernel) rfl ⟨Nat.le_of_ble_eq_true rfl, Nat.le_of_ble_eq_true rfl⟩ rfl (Nat.le_of_ble_eq_true rfl) ⟨Nat.zero_le _, Nat.zero_le _⟩ rfl dX0_layer_23 ?_
  obtain ⟨t', ht', rfl⟩ := nb_of (N := nt) rfl (by omega) c_23_3
  have kt' : cl (nI t') = t' := cl_nI (by omega)
  refine g_aload_n 0 C rfl dX0_layer_26 rfl ?_
  refine g_get (C0 := RX0) (T := TX0) (N := 17) 0 0 8 (.ref (h 4)) C hin rfl rfl (by decide) (by decide +kernel) rfl dX0_layer_27 ?_
  refine g_iload_n 1 C rfl dX0_layer_30 rfl ?_
  refine g_iload_n 2 C rfl dX0_layer_31 rfl ?_
  refine g_callS0 (na := 2) (av := [.int (nI (q')), .int (nI (k'))]) (c_layerRow l D cI cJ _ q' k') C gX0_layer_X0_layerRow rfl (by decide +kernel) rfl ⟨Nat.le_of_ble_eq_true rfl, Nat.le_of_ble_eq_true rfl⟩ rfl (Nat.le_of_ble_eq_true rfl) ⟨Nat.zero_le _, Nat.zero_le _⟩ rfl dX0_layer_32 ?_
  refine g_iload_n 3 C rfl dX0_layer_35 rfl ?_
  refine g_callS0 (na := 2) (av := [.int (nI (10 + q' * 12 + k')), .int (nI (t'))]) (c_place l D cI cJ _ (10 + q' * 12 + k') t') C gX0_layer_X0_place rfl (by decide +kernel) rfl ⟨Nat.le_of_ble_eq_true rfl, Nat.le_of_ble_eq_true rfl⟩ rfl (Nat.le_of_ble_eq_true rfl) ⟨Nat.zero_le _, Nat.zero_le _⟩ rfl dX0_layer_36 ?_
  refine g_ialdN (cA := cI) (n := 1284) (a := h 4) (f := σ.2 3) ((10 + q' * 12 + k') * 12 + t') 4 0 C rfl rfl (by omega) (by decide) dX0_layer_39 ?_
  obtain rfl : K = 0 := hK.trans (by simp [th_layer, c_5_1, c_15_2, c_23_3, kq', ejL, kk', kt'])
  exact g_iret C hr rfl dX0_layer_40 (Nat.zero_le _) (Nat.zero_le _) rfl (by rw [kq', kk', kt']) rfl
