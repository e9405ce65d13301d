/-! The reference, its small methods. -/
set_option maxRecDepth 100000 in
set_option maxHeartbeats 4000000 in
theorem c_m_thrown (l : Launch) (D : va_G) (cI cJ : ClassId) (h : Nat → Nat) (τ : gS) : MC l yX1_thrown wsX1_thrown 0 0 D (tyIJ cI cJ) [.ref (h 0)] (wM cI h τ) (wM cI h τ) none (some (.int (τ.1 0))) 0 := by
  refine MC.ofG (cc := cX1_thrown) (maxL := 1) (ret := (some .int)) [(0, .ref (h 0))] (by decide) rfl (Nat.le_of_ble_eq_true rfl) rfl ?_
  intro p e s m args below meth c C hr hout
  have hin : ∀ w ∈ wsX10, w ∈ wsX1_thrown := fun w h => by first | exact List.mem_cons_of_mem _ (List.mem_append_right _ h) | exact List.mem_cons_of_mem _ (List.mem_append_left _ (List.mem_append_right _ h)) | exact List.mem_cons_of_mem _ (List.mem_append_left _ (List.mem_append_left _ (List.mem_append_right _ h))) | exact List.mem_cons_of_mem _ (List.mem_append_left _ (List.mem_append_left _ (List.mem_append_left _ (List.mem_append_right _ h)))) | exact List.mem_cons_of_mem _ (List.mem_append_left _ (List.mem_append_left _ (List.mem_append_left _ (List.mem_append_left _ (List.mem_append_right _ h)))))
  refine g_aload_n 0 C rfl dX1_thrown_0 rfl ?_
  refine g_get (C0 := RX1) (T := TX1) (N := 22) 0 1 0 (.int (τ.1 0)) C hin rfl rfl (by decide) (by decide +kernel) rfl dX1_thrown_1 ?_
  exact g_iret C hr rfl dX1_thrown_4 (Nat.zero_le _) (Nat.zero_le _) rfl rfl rfl
set_option maxRecDepth 100000 in
set_option maxHeartbeats 4000000 in
theorem c_m_in (l : Launch) (D : va_G) (cI cJ : ClassId) (w : va_W) (x lo hi : Int32) : MC l yX1_in wsX1_in 0 0 D (tyIJ cI cJ) [.int (x), .int (lo), .int (hi)] w w none (some (.int (bI (¬ out x lo hi)))) 0 := by
  refine MC.ofG (cc := cX1_in) (maxL := 3) (ret := (some .boolean)) [(0, .int (x)), (1, .int (lo)), (2, .int (hi))] (by decide) rfl (Nat.le_of_ble_eq_true rfl) rfl ?_
  intro p e s m args below meth c C hr hout
  refine g_iload_n 0 C rfl dX1_in_0 rfl ?_
  refine g_iload_n 1 C rfl dX1_in_1 rfl ?_
  refine g_icmp_lt 14 C dX1_in_2 (by decide) (fun c_2_1 => ?_) (fun c_2_1 => ?_)
  ·
    refine g_iconst 0 C dX1_in_14 (by decide) ?_
    exact g_iret C hr rfl dX1_in_15 (Nat.zero_le _) (Nat.zero_le _) rfl (congrArg (fun x => some (Value.int x)) (bI_0 (fun q => q (Or.inl c_2_1))).symm) rfl
  ·
    refine g_iload_n 0 C rfl dX1_in_5 rfl ?_
    refine g_iload_n 2 C rfl dX1_in_6 rfl ?_
    refine g_icmp_gt 14 C dX1_in_7 (by decide) (fun c_7_2 => ?_) (fun c_7_2 => ?_)
    ·
      refine g_iconst 0 C dX1_in_14 (by decide) ?_
      exact g_iret C hr rfl dX1_in_15 (Nat.zero_le _) (Nat.zero_le _) rfl (congrArg (fun x => some (Value.int x)) (bI_0 (fun q => q (Or.inr (i32_nle c_7_2)))).symm) rfl
    ·
      refine g_iconst 1 C dX1_in_10 (by decide) ?_
      refine g_goto 15 C dX1_in_11 (by decide) ?_
      exact g_iret C hr rfl dX1_in_15 (Nat.zero_le _) (Nat.zero_le _) rfl (congrArg (fun x => some (Value.int x)) (bI_1 (show ¬ out x lo hi from fun q => q.elim c_2_1 (fun z => z (i32_ge c_7_2)))).symm) rfl
set_option maxRecDepth 100000 in
set_option maxHeartbeats 4000000 in
theorem c_m_areShades (l : Launch) (D : va_G) (cI cJ : ClassId) (w : va_W) (r g b : Int32) : MC l yX1_areShades wsX1_areShades 1 22 D (tyIJ cI cJ) [.int (r), .int (g), .int (b)] w w none (some (.int (bI (¬ (out r 0 255 ∨ out g 0 255 ∨ out b 0 255))))) 0 := by
  refine MC.ofG (cc := cX1_areShades) (maxL := 3) (ret := (some .boolean)) [(0, .int (r)), (1, .int (g)), (2, .int (b))] (by decide) rfl (Nat.le_of_ble_eq_true rfl) rfl ?_
  intro p e s m args below meth c C hr hout
  refine g_iload_n 0 C rfl dX1_areShades_0 rfl ?_
  refine g_iconst 0 C dX1_areShades_1 (by decide) ?_
  refine g_sipush 255 C dX1_areShades_2 (by decide) ?_
  refine g_callS0 (na := 3) (av := [.int (r), .int (0), .int (255)]) (c_m_in l D cI cJ _ (r) (0) (255)) C gX1_areShades_X1_in rfl (by decide +kernel) rfl ⟨Nat.le_of_ble_eq_true rfl, Nat.le_of_ble_eq_true rfl⟩ rfl (Nat.le_of_ble_eq_true rfl) ⟨Nat.zero_le _, Nat.zero_le _⟩ rfl dX1_areShades_5 ?_
  refine g_if_eq 37 C dX1_areShades_8 (by decide) (fun c_8_1 => ?_) (fun c_8_1 => ?_)
  ·
    have b_8_1 : ¬ (¬ out (r) (0) (255)) := bI_eq c_8_1
    refine g_iconst 0 C dX1_areShades_37 (by decide) ?_
    exact g_iret C hr rfl dX1_areShades_38 (Nat.zero_le _) (Nat.zero_le _) rfl (congrArg (fun x => some (Value.int x)) (bI_0 (show ¬ ¬ (out r 0 255 ∨ out g 0 255 ∨ out b 0 255) from fun q => b_8_1 (fun z => q (Or.inl z)))).symm) rfl
  ·
    have b_8_1 : ¬ out (r) (0) (255) := bI_ne c_8_1
    refine g_iload_n 1 C rfl dX1_areShades_11 rfl ?_
    refine g_iconst 0 C dX1_areShades_12 (by decide) ?_
    refine g_sipush 255 C dX1_areShades_13 (by decide) ?_
    refine g_callS0 (na := 3) (av := [.int (g), .int (0), .int (255)]) (c_m_in l D cI cJ _ (g) (0) (255)) C gX1_areShades_X1_in rfl (by decide +kernel) rfl ⟨Nat.le_of_ble_eq_true rfl, Nat.le_of_ble_eq_true rfl⟩ rfl (Nat.le_of_ble_eq_true rfl) ⟨Nat.zero_le _, Nat.zero_le _⟩ rfl dX1_areShades_16 ?_
    refine g_if_eq 37 C dX1_areShades_19 (by decide) (fun c_19_2 => ?_) (fun c_19_2 => ?_)
    ·
      have b_19_2 : ¬ (¬ out (g) (0) (255)) := bI_eq c_19_2
      refine g_iconst 0 C dX1_areShades_37 (by decide) ?_
      exact g_iret C hr rfl dX1_areShades_38 (Nat.zero_le _) (Nat.zero_le _) rfl (congrArg (fun x => some (Value.int x)) (bI_0 (show ¬ ¬ (out r 0 255 ∨ out g 0 255 ∨ out b 0 255) from fun q => b_19_2 (fun z => q (Or.inr (Or.inl z))))).symm) rfl
    ·
      have b_19_2 : ¬ out (g) (0) (255) := bI_ne c_19_2
      refine g_iload_n 2 C rfl dX1_areShades_22 rfl ?_
      refine g_iconst 0 C dX1_areShades_23 (by decide) ?_
      refine g_sipush 255 C dX1_areShades_24 (by decide) ?_
      refine g_callS0 (na := 3) (av := [.int (b), .int (0), .int (255)]) (c_m_in l D cI cJ _ (b) (0) (255)) C gX1_areShades_X1_in rfl (by decide +kernel) rfl ⟨Nat.le_of_ble_eq_true rfl, Nat.le_of_ble_eq_true rfl⟩ rfl (Nat.le_of_ble_eq_true rfl) ⟨Nat.zero_le _, Nat.zero_le _⟩ rfl dX1_areShades_27 ?_
      refine g_if_eq 37 C dX1_areShades_30 (by decide) (fun c_30_3 => ?_) (fun c_30_3 => ?_)
      ·
        have b_30_3 : ¬ (¬ out (b) (0) (255)) := bI_eq c_30_3
        refine g_iconst 0 C dX1_areShades_37 (by decide) ?_
        exact g_iret C hr rfl dX1_areShades_38 (Nat.zero_le _) (Nat.zero_le _) rfl (congrArg (fun x => some (Value.int x)) (bI_0 (show ¬ ¬ (out r 0 255 ∨ out g 0 255 ∨ out b 0 255) from fun q => b_30_3 (fun z => q (Or.inr (Or.inr z))))).symm) rfl
      ·
        have b_30_3 : ¬ out (b) (0) (255) := bI_ne c_30_3
        refine g_iconst 1 C dX1_areShades_33 (by decide) ?_
        refine g_goto 38 C dX1_areShades_34 (by decide) ?_
        exact g_iret C hr rfl dX1_areShades_38 (Nat.zero_le _) (Nat.zero_le _) rfl (congrArg (fun x => some (Value.int x)) (bI_1 (show ¬ (out r 0 255 ∨ out g 0 255 ∨ out b 0 255) from fun q => q.elim b_8_1 (fun q => q.elim b_19_2 b_30_3))).symm) rfl
set_option maxRecDepth 100000 in
set_option maxHeartbeats 4000000 in
theorem c_m_isTube (l : Launch) (D : va_G) (cI cJ : ClassId) (h : Nat → Nat) (τ : gS) (np nt no ni : Nat) (hI : iM0 τ np nt no ni) (x : Int32) : MC l yX1_isTube wsX1_isTube 1 22 D (tyIJ cI cJ) [.ref (h 0), .int (x)] (wM cI h τ) (wM cI h τ) none (some (.int (bI (¬ bad x (nI nt))))) 0 := by
  have hI0 := hI
  obtain ⟨⟨hnp, hnp6⟩, ⟨hnt, hnt12⟩, ⟨hno, hno10⟩, ⟨hni, hni8⟩, hPT, hLC, hHS⟩ := hI
  refine MC.ofG (cc := cX1_isTube) (maxL := 2) (ret := (some .boolean)) [(0, .ref (h 0)), (1, .int (x))] (by decide) rfl (Nat.le_of_ble_eq_true rfl) rfl ?_
  intro p e s m args below meth c C hr hout
  have hin : ∀ w ∈ wsX10, w ∈ wsX1_isTube := fun w h => by first | exact List.mem_cons_of_mem _ (List.mem_append_right _ h) | exact List.mem_cons_of_mem _ (List.mem_append_left _ (List.mem_append_right _ h)) | exact List.mem_cons_of_mem _ (List.mem_append_left _ (List.mem_append_left _ (List.mem_append_right _ h))) | exact List.mem_cons_of_mem _ (List.mem_append_left _ (List.mem_append_left _ (List.mem_append_left _ (List.mem_append_right _ h)))) | exact List.mem_cons_of_mem _ (List.mem_append_left _ (List.mem_append_left _ (List.mem_append_left _ (List.mem_append_left _ (List.mem_append_right _ h)))))
  refine g_iload_n 1 C rfl dX1_isTube_0 rfl ?_
  refine g_iconst 0 C dX1_isTube_1 (by decide) ?_
  refine g_aload_n 0 C rfl dX1_isTube_2 rfl ?_
  refine g_get (C0 := RX1) (T := TX1) (N := 22) 0 1 3 (.int (τ.1 2)) C hin rfl rfl (by decide) (by decide +kernel) rfl dX1_isTube_3 ?_
  refine g_is (nI nt) hnt ?_
  refine g_iconst 1 C dX1_isTube_6 (by decide) ?_
  refine g_isub C dX1_isTube_7 ?_
  refine g_callS0 (na := 3) (av := [.int (x), .int (0), .int (nI (nt) - 1)]) (c_m_in l D cI cJ _ (x) (0) ((nI (nt) - 1))) C gX1_isTube_X1_in rfl (by decide +kernel) rfl ⟨Nat.le_of_ble_eq_true rfl, Nat.le_of_ble_eq_true rfl⟩ rfl (Nat.le_of_ble_eq_true rfl) ⟨Nat.zero_le _, Nat.zero_le _⟩ rfl dX1_isTube_8 ?_
  exact g_iret C hr (bI_nar _) dX1_isTube_11 (Nat.zero_le _) (Nat.zero_le _) rfl (congrArg (fun x => some (Value.int x)) (bI_congr (in_bad (by omega)))) rfl
set_option maxRecDepth 100000 in
set_option maxHeartbeats 4000000 in
theorem c_m_isPot (l : Launch) (D : va_G) (cI cJ : ClassId) (h : Nat → Nat) (τ : gS) (np nt no ni : Nat) (hI : iM0 τ np nt no ni) (x : Int32) : MC l yX1_isPot wsX1_isPot 1 22 D (tyIJ cI cJ) [.ref (h 0), .int (x)] (wM cI h τ) (wM cI h τ) none (some (.int (bI (¬ bad x (nI no))))) 0 := by
  have hI0 := hI
  obtain ⟨⟨hnp, hnp6⟩, ⟨hnt, hnt12⟩, ⟨hno, hno10⟩, ⟨hni, hni8⟩, hPT, hLC, hHS⟩ := hI
  refine MC.ofG (cc := cX1_isPot) (maxL := 2) (ret := (some .boolean)) [(0, .ref (h 0)), (1, .int (x))] (by decide) rfl (Nat.le_of_ble_eq_true rfl) rfl ?_
  intro p e s m args below meth c C hr hout
  have hin : ∀ w ∈ wsX10, w ∈ wsX1_isPot := fun w h => by first | exact List.mem_cons_of_mem _ (List.mem_append_right _ h) | exact List.mem_cons_of_mem _ (List.mem_append_left _ (List.mem_append_right _ h)) | exact List.mem_cons_of_mem _ (List.mem_append_left _ (List.mem_append_left _ (List.mem_append_right _ h))) | exact List.mem_cons_of_mem _ (List.mem_append_left _ (List.mem_append_left _ (List.mem_append_left _ (List.mem_append_right _ h)))) | exact List.mem_cons_of_mem _ (List.mem_append_left _ (List.mem_append_left _ (List.mem_append_left _ (List.mem_append_left _ (List.mem_append_right _ h)))))
  refine g_iload_n 1 C rfl dX1_isPot_0 rfl ?_
  refine g_iconst 0 C dX1_isPot_1 (by decide) ?_
  refine g_aload_n 0 C rfl dX1_isPot_2 rfl ?_
  refine g_get (C0 := RX1) (T := TX1) (N := 22) 0 1 7 (.int (τ.1 3)) C hin rfl rfl (by decide) (by decide +kernel) rfl dX1_isPot_3 ?_
  refine g_is (nI no) hno ?_
  refine g_iconst 1 C dX1_isPot_6 (by decide) ?_
  refine g_isub C dX1_isPot_7 ?_
  refine g_callS0 (na := 3) (av := [.int (x), .int (0), .int (nI (no) - 1)]) (c_m_in l D cI cJ _ (x) (0) ((nI (no) - 1))) C gX1_isPot_X1_in rfl (by decide +kernel) rfl ⟨Nat.le_of_ble_eq_true rfl, Nat.le_of_ble_eq_true rfl⟩ rfl (Nat.le_of_ble_eq_true rfl) ⟨Nat.zero_le _, Nat.zero_le _⟩ rfl dX1_isPot_8 ?_
  exact g_iret C hr (bI_nar _) dX1_isPot_11 (Nat.zero_le _) (Nat.zero_le _) rfl (congrArg (fun x => some (Value.int x)) (bI_congr (in_bad (by omega)))) rfl
set_option maxRecDepth 100000 in
set_option maxHeartbeats 4000000 in
theorem c_m_isPicture (l : Launch) (D : va_G) (cI cJ : ClassId) (h : Nat → Nat) (τ : gS) (np nt no ni : Nat) (hI : iM0 τ np nt no ni) (x : Int32) : MC l yX1_isPicture wsX1_isPicture 1 22 D (tyIJ cI cJ) [.ref (h 0), .int (x)] (wM cI h τ) (wM cI h τ) none (some (.int (bI (¬ bad x (nI ni))))) 0 := by
  have hI0 := hI
  obtain ⟨⟨hnp, hnp6⟩, ⟨hnt, hnt12⟩, ⟨hno, hno10⟩, ⟨hni, hni8⟩, hPT, hLC, hHS⟩ := hI
  refine MC.ofG (cc := cX1_isPicture) (maxL := 2) (ret := (some .boolean)) [(0, .ref (h 0)), (1, .int (x))] (by decide) rfl (Nat.le_of_ble_eq_true rfl) rfl ?_
  intro p e s m args below meth c C hr hout
  have hin : ∀ w ∈ wsX10, w ∈ wsX1_isPicture := fun w h => by first | exact List.mem_cons_of_mem _ (List.mem_append_right _ h) | exact List.mem_cons_of_mem _ (List.mem_append_left _ (List.mem_append_right _ h)) | exact List.mem_cons_of_mem _ (List.mem_append_left _ (List.mem_append_left _ (List.mem_append_right _ h))) | exact List.mem_cons_of_mem _ (List.mem_append_left _ (List.mem_append_left _ (List.mem_append_left _ (List.mem_append_right _ h)))) | exact List.mem_cons_of_mem _ (List.mem_append_left _ (List.mem_append_left _ (List.mem_append_left _ (List.mem_append_left _ (List.mem_append_right _ h)))))
  refine g_iload_n 1 C rfl dX1_isPicture_0 rfl ?_
  refine g_iconst 0 C dX1_isPicture_1 (by decide) ?_
  refine g_aload_n 0 C rfl dX1_isPicture_2 rfl ?_
  refine g_get (C0 := RX1) (T := TX1) (N := 22) 0 1 9 (.int (τ.1 4)) C hin rfl rfl (by decide) (by decide +kernel) rfl dX1_isPicture_3 ?_
  refine g_is (nI ni) hni ?_
  refine g_iconst 1 C dX1_isPicture_6 (by decide) ?_
  refine g_isub C dX1_isPicture_7 ?_
  refine g_callS0 (na := 3) (av := [.int (x), .int (0), .int (nI (ni) - 1)]) (c_m_in l D cI cJ _ (x) (0) ((nI (ni) - 1))) C gX1_isPicture_X1_in rfl (by decide +kernel) rfl ⟨Nat.le_of_ble_eq_true rfl, Nat.le_of_ble_eq_true rfl⟩ rfl (Nat.le_of_ble_eq_true rfl) ⟨Nat.zero_le _, Nat.zero_le _⟩ rfl dX1_isPicture_8 ?_
  exact g_iret C hr (bI_nar _) dX1_isPicture_11 (Nat.zero_le _) (Nat.zero_le _) rfl (congrArg (fun x => some (Value.int x)) (bI_congr (in_bad (by omega)))) rfl
set_option maxRecDepth 100000 in
set_option maxHeartbeats 4000000 in
theorem c_m_isHouse (l : Launch) (D : va_G) (cI cJ : ClassId) (w : va_W) (x : Int32) : MC l yX1_isHouse wsX1_isHouse 1 22 D (tyIJ cI cJ) [.int (x)] w w none (some (.int (bI (¬ bad x 4)))) 0 := by
  refine MC.ofG (cc := cX1_isHouse) (maxL := 1) (ret := (some .boolean)) [(0, .int (x))] (by decide) rfl (Nat.le_of_ble_eq_true rfl) rfl ?_
  intro p e s m args below meth c C hr hout
  refine g_iload_n 0 C rfl dX1_isHouse_0 rfl ?_
  refine g_iconst 0 C dX1_isHouse_1 (by decide) ?_
  refine g_iconst 3 C dX1_isHouse_2 (by decide) ?_
  refine g_callS0 (na := 3) (av := [.int (x), .int (0), .int (3)]) (c_m_in l D cI cJ _ (x) (0) (3)) C gX1_isHouse_X1_in rfl (by decide +kernel) rfl ⟨Nat.le_of_ble_eq_true rfl, Nat.le_of_ble_eq_true rfl⟩ rfl (Nat.le_of_ble_eq_true rfl) ⟨Nat.zero_le _, Nat.zero_le _⟩ rfl dX1_isHouse_3 ?_
  exact g_iret C hr (bI_nar _) dX1_isHouse_6 (Nat.zero_le _) (Nat.zero_le _) rfl (congrArg (fun x => some (Value.int x)) (bI_congr (in_bad (n := 4) (by decide)))) rfl
set_option maxRecDepth 100000 in
set_option maxHeartbeats 4000000 in
theorem c_m_layerAt (l : Launch) (D : va_G) (cI cJ : ClassId) (w : va_W) (a b : Nat) : MC l yX1_layerAt wsX1_layerAt 0 0 D (tyIJ cI cJ) [.int (nI (a)), .int (nI (b))] w w none (some (.int (nI (12 * (12 * a + b))))) 0 := by
  refine MC.ofG (cc := cX1_layerAt) (maxL := 2) (ret := (some .int)) [(0, .int (nI (a))), (1, .int (nI (b)))] (by decide) rfl (Nat.le_of_ble_eq_true rfl) rfl ?_
  intro p e s m args below meth c C hr hout
  refine g_bipush 12 C dX1_layerAt_0 (by decide) ?_
  refine g_bipush 12 C dX1_layerAt_2 (by decide) ?_
  refine g_iload_n 0 C rfl dX1_layerAt_4 rfl ?_
  refine g_imulN 12 a C dX1_layerAt_5 ?_
  refine g_iload_n 1 C rfl dX1_layerAt_6 rfl ?_
  refine g_iaddN (12 * a) b C dX1_layerAt_7 ?_
  refine g_imulN 12 ((12 * a) + b) C dX1_layerAt_8 ?_
  exact g_iret C hr rfl dX1_layerAt_9 (Nat.zero_le _) (Nat.zero_le _) rfl rfl rfl
set_option maxRecDepth 100000 in
set_option maxHeartbeats 4000000 in
theorem c_m_gramsOf (l : Launch) (D : va_G) (cI cJ : ClassId) (h : Nat → Nat) (τ : gS) (np nt no ni : Nat) (hI : iM0 τ np nt no ni) (a : Nat) (hp : a < 10) : MC l yX1_gramsOf wsX1_gramsOf 0 0 D (tyIJ cI cJ) [.ref (h 0), .int (nI (a))] (wM cI h τ) (wM cI h τ) none (some (.int (potS (τ.2 4) a 12))) 0 := by
  have hI0 := hI
  obtain ⟨⟨hnp, hnp6⟩, ⟨hnt, hnt12⟩, ⟨hno, hno10⟩, ⟨hni, hni8⟩, hPT, hLC, hHS⟩ := hI
  refine MC.ofG (cc := cX1_gramsOf) (maxL := 4) (ret := (some .int)) [(0, .ref (h 0)), (1, .int (nI (a)))] (by decide) rfl (Nat.le_of_ble_eq_true rfl) rfl ?_
  intro p e s m args below meth c C hr hout
  have hin : ∀ w ∈ wsX10, w ∈ wsX1_gramsOf := fun w h => by first | exact List.mem_cons_of_mem _ (List.mem_append_right _ h) | exact List.mem_cons_of_mem _ (List.mem_append_left _ (List.mem_append_right _ h)) | exact List.mem_cons_of_mem _ (List.mem_append_left _ (List.mem_append_left _ (List.mem_append_right _ h))) | exact List.mem_cons_of_mem _ (List.mem_append_left _ (List.mem_append_left _ (List.mem_append_left _ (List.mem_append_right _ h)))) | exact List.mem_cons_of_mem _ (List.mem_append_left _ (List.mem_append_left _ (List.mem_append_left _ (List.mem_append_left _ (List.mem_append_right _ h)))))
  refine g_iconst 0 C dX1_gramsOf_0 (by decide) ?_
  refine g_istore_n [(2, .int (0)), (0, .ref (h 0)), (1, .int (nI (a)))] C dX1_gramsOf_1 rfl (by decide) rfl ?_
  refine g_iconst 0 C dX1_gramsOf_2 (by decide) ?_
  refine g_istore_n [(3, .int (0)), (2, .int (0)), (0, .ref (h 0)), (1, .int (nI (a)))] C dX1_gramsOf_3 rfl (by decide) rfl ?_
  have loop_4 : ∀ (fu : Nat) (i : Nat), i ≤ 12 → 13 ≤ i + fu → G p l e ({ frames := 0, cells := 0, slots := 6 * 0, locals := 0 } : Room) s m args below meth c D (va_A (wM cI h τ) s.heap.size) 4 0 0 (gQ below D (wM cI h τ) (wM cI h τ) none (some (.int (potS (τ.2 4) a 12))) 0 args s) (wM cI h τ) [(0, .ref (h 0)), (1, .int (nI (a))), (2, .int (potS (τ.2 4) a i)), (3, .int (nI (i)))] 4 [] := by
    intro fu
    induction fu with
    | zero => intro i hi hf; exact absurd True.intro (by omega)
    | succ fu ih_4 =>
      intro i hi hf
      refine g_iload_n 3 C rfl dX1_gramsOf_4 rfl ?_
      refine g_bipush 12 C dX1_gramsOf_5 (by decide) ?_
      refine g_icmp_ge 30 C dX1_gramsOf_7 (by decide) (fun c_7_1 => ?_) (fun c_7_1 => ?_)
      ·
        have d_7_1 : 12 ≤ i := (nI_leI (a := 12) (b := i) (by omega) (by omega)).mp c_7_1
        refine g_iload_n 2 C rfl dX1_gramsOf_30 rfl ?_
        exact g_iret C hr rfl dX1_gramsOf_31 (Nat.zero_le _) (Nat.zero_le _) rfl (by rw [show i = 12 by omega]) rfl
      ·
        have d_7_1 : ¬ 12 ≤ i := fun zz => c_7_1 ((nI_leI (a := 12) (b := i) (by omega) (by omega)).mpr zz)
        refine g_iload_n 2 C rfl dX1_gramsOf_10 rfl ?_
        refine g_aload_n 0 C rfl dX1_gramsOf_11 rfl ?_
        refine g_get (C0 := RX1) (T := TX1) (N := 22) 0 1 8 (.ref (h 5)) C hin rfl rfl (by decide) (by decide +kernel) rfl dX1_gramsOf_12 ?_
        refine g_bipush 12 C dX1_gramsOf_15 (by decide) ?_
        refine g_iload_n 1 C rfl dX1_gramsOf_17 rfl ?_
        refine g_imulN 12 a C dX1_gramsOf_18 ?_
        refine g_iload_n 3 C rfl dX1_gramsOf_19 rfl ?_
        refine g_iaddN (12 * a) i C dX1_gramsOf_20 ?_
        refine g_ialdN (cA := cI) (n := 120) (a := h 5) (f := τ.2 4) ((12 * a) + i) 5 0 C rfl rfl (by omega) (by decide) dX1_gramsOf_21 ?_
        refine g_iadd C dX1_gramsOf_22 ?_
        refine g_istore_n [(2, .int ((potS (τ.2 4) a i) + (τ.2 4 ((12 * a) + i)))), (0, .ref (h 0)), (1, .int (nI (a))), (3, .int (nI (i)))] C dX1_gramsOf_23 rfl (by decide) rfl ?_
        refine g_iincN 3 i 1 [(3, .int (nI (i + 1))), (2, .int ((potS (τ.2 4) a i) + (τ.2 4 ((12 * a) + i)))), (0, .ref (h 0)), (1, .int (nI (a)))] C dX1_gramsOf_24 rfl (by decide) (by decide) rfl ?_
        refine g_goto 4 C dX1_gramsOf_27 (by decide) ?_
        refine g_lv [2, 3, 1, 0] [(0, .ref (h 0)), (1, .int (nI (a))), (2, .int ((potS (τ.2 4) a i) + (τ.2 4 ((12 * a) + i)))), (3, .int (nI (i + 1)))] rfl ?_
        exact ih_4 (i + 1) (by omega) (by omega)
  refine g_lv [2, 3, 1, 0] [(0, .ref (h 0)), (1, .int (nI (a))), (2, .int (0)), (3, .int (0))] rfl ?_
  exact loop_4 13 0 (by omega) (by omega)
set_option maxRecDepth 100000 in
set_option maxHeartbeats 4000000 in
theorem c_m_flows (l : Launch) (D : va_G) (cI cJ : ClassId) (h : Nat → Nat) (τ : gS) (np nt no ni : Nat) (hI : iM0 τ np nt no ni) (a : Nat) (g : Int32) (hp : a < 10) (hz : ¬ potS (τ.2 4) a 12 = 0) : MC l yX1_flows wsX1_flows 1 23 D (tyIJ cI cJ) [.ref (h 0), .int (nI (a)), .int (g)] (wM cI h τ) (wM cI h (flwS τ a g)) none none 0 := by
  have hI0 := hI
  obtain ⟨⟨hnp, hnp6⟩, ⟨hnt, hnt12⟩, ⟨hno, hno10⟩, ⟨hni, hni8⟩, hPT, hLC, hHS⟩ := hI
  refine MC.ofG (cc := cX1_flows) (maxL := 7) (ret := none) [(0, .ref (h 0)), (1, .int (nI (a))), (2, .int (g))] (by decide) rfl (Nat.le_of_ble_eq_true rfl) rfl ?_
  intro p e s m args below meth c C hr hout
  have hin : ∀ w ∈ wsX10, w ∈ wsX1_flows := fun w h => by first | exact List.mem_cons_of_mem _ (List.mem_append_right _ h) | exact List.mem_cons_of_mem _ (List.mem_append_left _ (List.mem_append_right _ h)) | exact List.mem_cons_of_mem _ (List.mem_append_left _ (List.mem_append_left _ (List.mem_append_right _ h))) | exact List.mem_cons_of_mem _ (List.mem_append_left _ (List.mem_append_left _ (List.mem_append_left _ (List.mem_append_right _ h)))) | exact List.mem_cons_of_mem _ (List.mem_append_left _ (List.mem_append_left _ (List.mem_append_left _ (List.mem_append_left _ (List.mem_append_right _ h)))))
  refine g_aload_n 0 C rfl dX1_flows_0 rfl ?_
  refine g_iload_n 1 C rfl dX1_flows_1 rfl ?_
  refine g_callV0 (C0 := RX1) (T := TX1) (N := 22) (ci := 1) (na := 1) (As := [.int (nI (a))]) (c_m_gramsOf l D cI cJ h τ np nt no ni hI0 a (by omega)) C gX1_flows_X1_gramsOf rfl (by decide +kernel) rfl ⟨Nat.le_of_ble_eq_true rfl, Nat.le_of_ble_eq_true rfl⟩ rfl rfl rfl (Nat.le_of_ble_eq_true rfl) ⟨Nat.zero_le _, Nat.zero_le _⟩ rfl dX1_flows_2 ?_
  refine g_istore_n [(3, .int (potS (τ.2 4) a 12)), (0, .ref (h 0)), (1, .int (nI (a))), (2, .int (g))] C dX1_flows_5 rfl (by decide) rfl ?_
  refine g_iconst 0 C dX1_flows_6 (by decide) ?_
  refine g_istore [(4, .int (0)), (3, .int (potS (τ.2 4) a 12)), (0, .ref (h 0)), (1, .int (nI (a))), (2, .int (g))] C dX1_flows_7 (by decide) rfl ?_
  refine g_iconst 0 C dX1_flows_9 (by decide) ?_
  refine g_istore [(5, .int (0)), (4, .int (0)), (3, .int (potS (τ.2 4) a 12)), (0, .ref (h 0)), (1, .int (nI (a))), (2, .int (g))] C dX1_flows_10 (by decide) rfl ?_
  have loop_12 : ∀ (fu : Nat) (i : Nat), i ≤ 12 → 13 ≤ i + fu → G p l e ({ frames := 1, cells := 0, slots := 6 * 0, locals := 23 } : Room) s m args below meth c D (va_A (wM cI h τ) s.heap.size) 7 0 0 (gQ below D (wM cI h τ) (wM cI h (flwS τ a g)) none none 0 args s) (wM cI h (sA τ 14 (fillF (τ.2 14) (flM (τ.2 4) a g) i))) [(0, .ref (h 0)), (1, .int (nI (a))), (2, .int (g)), (3, .int (potS (τ.2 4) a 12)), (4, .int (potS (τ.2 4) a i)), (5, .int (nI (i)))] 12 [] := by
    intro fu
    induction fu with
    | zero => intro i hi hf; exact absurd True.intro (by omega)
    | succ fu ih_12 =>
      intro i hi hf
      refine g_iload 5 C rfl dX1_flows_12 ?_
      refine g_bipush 12 C dX1_flows_14 (by decide) ?_
      refine g_icmp_ge 69 C dX1_flows_16 (by decide) (fun c_16_1 => ?_) (fun c_16_1 => ?_)
      ·
        have d_16_1 : 12 ≤ i := (nI_leI (a := 12) (b := i) (by omega) (by omega)).mp c_16_1
        obtain rfl : i = 12 := by omega
        refine g_w (wM cI h (sA τ 14 (flwF τ a g))) rfl ?_
        refine g_iconst 0 C dX1_flows_69 (by decide) ?_
        refine g_istore [(5, .int (0)), (0, .ref (h 0)), (1, .int (nI (a))), (2, .int (g)), (3, .int (potS (τ.2 4) a 12)), (4, .int (potS (τ.2 4) a 12))] C dX1_flows_70 (by decide) rfl ?_
        have loop_72 : ∀ (fu : Nat) (i2 : Nat), i2 ≤ 12 → 13 ≤ i2 + fu → G p l e ({ frames := 1, cells := 0, slots := 6 * 0, locals := 23 } : Room) s m args below meth c D (va_A (wM cI h τ) s.heap.size) 7 0 0 (gQ below D (wM cI h τ) (wM cI h (flwS τ a g)) none none 0 args s) (wM cI h (sA (sA τ 14 (flwF τ a g)) 4 (subF (τ.2 4) (flwF τ a g) (12 * a) i2))) [(0, .ref (h 0)), (1, .int (nI (a))), (5, .int (nI (i2)))] 72 [] := by
          intro fu
          induction fu with
          | zero => intro i2 hi2 hf2; exact absurd True.intro (by omega)
          | succ fu ih_72 =>
            intro i2 hi2 hf2
            refine g_iload 2 C rfl dX1_flows_72 ?_
            refine g_bipush 12 C dX1_flows_74 (by decide) ?_
            refine g_icmp_ge 107 C dX1_flows_76 (by decide) (fun c_76_2 => ?_) (fun c_76_2 => ?_)
            ·
              have d_76_2 : 12 ≤ i2 := (nI_leI (a := 12) (b := i2) (by omega) (by omega)).mp c_76_2
              exact g_vret C hr dX1_flows_107 (Nat.zero_le _) (Nat.zero_le _) rfl rfl (by rw [show i2 = 12 by omega]; rfl)
            ·
              have d_76_2 : ¬ 12 ≤ i2 := fun zz => c_76_2 ((nI_leI (a := 12) (b := i2) (by omega) (by omega)).mpr zz)
              refine g_aload_n 0 C rfl dX1_flows_79 rfl ?_
              refine g_get (C0 := RX1) (T := TX1) (N := 22) 0 1 8 (.ref (h 5)) C hin rfl rfl (by decide) (by decide +kernel) rfl dX1_flows_80 ?_
              refine g_bipush 12 C dX1_flows_83 (by decide) ?_
              refine g_iload_n 1 C rfl dX1_flows_85 rfl ?_
              refine g_imulN 12 a C dX1_flows_86 ?_
              refine g_iload 2 C rfl dX1_flows_87 ?_
              refine g_iaddN (12 * a) i2 C dX1_flows_89 ?_
              refine g_dup2 C dX1_flows_90 rfl rfl ?_
              refine g_ialdN (cA := cI) (n := 120) (a := h 5) (f := subF (τ.2 4) (flwF τ a g) (12 * a) i2) ((12 * a) + i2) 5 0 C rfl rfl (by omega) (by decide) dX1_flows_91 ?_
              refine g_aload_n 0 C rfl dX1_flows_92 rfl ?_
              refine g_get (C0 := RX1) (T := TX1) (N := 22) 0 1 20 (.ref (h 15)) C hin rfl rfl (by decide) (by decide +kernel) rfl dX1_flows_93 ?_
              refine g_iload 2 C rfl dX1_flows_96 ?_
              refine g_ialdN (cA := cI) (n := 12) (a := h 15) (f := flwF τ a g) i2 15 0 C rfl rfl (by omega) (by decide) dX1_flows_98 ?_
              refine g_isub C dX1_flows_99 ?_
              refine g_iastN (cA := cI) (n := 120) (a := h 5) (f := subF (τ.2 4) (flwF τ a g) (12 * a) i2) (x := (((subF (τ.2 4) (flwF τ a g) (12 * a) i2) ((12 * a) + i2)) - ((flwF τ a g) i2))) ((12 * a) + i2) 5 0 (wM cI h (sA (sA τ 14 (flwF τ a g)) 4 (upd (subF (τ.2 4) (flwF τ a g) (12 * a) i2) ((12 * a) + i2) ((((subF (τ.2 4) (flwF τ a g) (12 * a) i2) ((12 * a) + i2)) - ((flwF τ a g) i2)))))) C rfl rfl (by omega) (by decide) rfl dX1_flows_100 ?_
              refine g_iincN 2 i2 1 [(5, .int (nI (i2 + 1))), (0, .ref (h 0)), (1, .int (nI (a)))] C dX1_flows_101 rfl (by decide) (by decide) rfl ?_
              refine g_goto 72 C dX1_flows_104 (by decide) ?_
              refine g_lv [1, 2, 0] [(0, .ref (h 0)), (1, .int (nI (a))), (5, .int (nI (i2 + 1)))] rfl ?_
              exact ih_72 (i2 + 1) (by omega) (by omega)
        refine g_lv [1, 2, 0] [(0, .ref (h 0)), (1, .int (nI (a))), (5, .int (0))] rfl ?_
        exact loop_72 13 0 (by omega) (by omega)
      ·
        have d_16_1 : ¬ 12 ≤ i := fun zz => c_16_1 ((nI_leI (a := 12) (b := i) (by omega) (by omega)).mpr zz)
        refine g_aload_n 0 C rfl dX1_flows_19 rfl ?_
        refine g_get (C0 := RX1) (T := TX1) (N := 22) 0 1 8 (.ref (h 5)) C hin rfl rfl (by decide) (by decide +kernel) rfl dX1_flows_20 ?_
        refine g_bipush 12 C dX1_flows_23 (by decide) ?_
        refine g_iload_n 1 C rfl dX1_flows_25 rfl ?_
        refine g_imulN 12 a C dX1_flows_26 ?_
        refine g_iload 5 C rfl dX1_flows_27 ?_
        refine g_iaddN (12 * a) i C dX1_flows_29 ?_
        refine g_ialdN (cA := cI) (n := 120) (a := h 5) (f := τ.2 4) ((12 * a) + i) 5 0 C rfl rfl (by omega) (by decide) dX1_flows_30 ?_
        refine g_istore [(6, .int (τ.2 4 ((12 * a) + i))), (0, .ref (h 0)), (1, .int (nI (a))), (2, .int (g)), (3, .int (potS (τ.2 4) a 12)), (4, .int (potS (τ.2 4) a i)), (5, .int (nI (i)))] C dX1_flows_31 (by decide) rfl ?_
        refine g_aload_n 1 C rfl dX1_flows_33 rfl ?_
        refine g_get (C0 := RX1) (T := TX1) (N := 22) 0 1 20 (.ref (h 15)) C hin rfl rfl (by decide) (by decide +kernel) rfl dX1_flows_34 ?_
        refine g_iload 6 C rfl dX1_flows_37 ?_
        refine g_iload 5 C rfl dX1_flows_39 ?_
        refine g_iload 0 C rfl dX1_flows_41 ?_
        refine g_iadd C dX1_flows_43 ?_
        refine g_iload_n 3 C rfl dX1_flows_44 rfl ?_
        refine g_imul C dX1_flows_45 ?_
        refine g_iload_n 4 C rfl dX1_flows_46 rfl ?_
        refine g_idiv C hz dX1_flows_47 ?_
        refine g_iload 5 C rfl dX1_flows_48 ?_
        refine g_iload_n 3 C rfl dX1_flows_50 rfl ?_
        refine g_imul C dX1_flows_51 ?_
        refine g_iload_n 4 C rfl dX1_flows_52 rfl ?_
        refine g_idiv C hz dX1_flows_53 ?_
        refine g_isub C dX1_flows_54 ?_
        refine g_is ((flM (τ.2 4) a g i)) rfl ?_
        refine g_iastN (cA := cI) (n := 12) (a := h 15) (f := fillF (τ.2 14) (flM (τ.2 4) a g) i) (x := (flM (τ.2 4) a g i)) i 15 0 (wM cI h (sA τ 14 (upd (fillF (τ.2 14) (flM (τ.2 4) a g) i) i ((flM (τ.2 4) a g i))))) C rfl rfl (by omega) (by decide) rfl dX1_flows_55 ?_
        refine g_iload 5 C rfl dX1_flows_56 ?_
        refine g_iload 0 C rfl dX1_flows_58 ?_
        refine g_iadd C dX1_flows_60 ?_
        refine g_istore [(4, .int ((potS (τ.2 4) a i) + (τ.2 4 ((12 * a) + i)))), (6, .int (τ.2 4 ((12 * a) + i))), (0, .ref (h 0)), (1, .int (nI (a))), (2, .int (g)), (3, .int (potS (τ.2 4) a 12)), (5, .int (nI (i)))] C dX1_flows_61 (by decide) rfl ?_
        refine g_iincN 6 i 1 [(5, .int (nI (i + 1))), (4, .int ((potS (τ.2 4) a i) + (τ.2 4 ((12 * a) + i)))), (6, .int (τ.2 4 ((12 * a) + i))), (0, .ref (h 0)), (1, .int (nI (a))), (2, .int (g)), (3, .int (potS (τ.2 4) a 12))] C dX1_flows_63 rfl (by decide) (by decide) rfl ?_
        refine g_goto 12 C dX1_flows_66 (by decide) ?_
        refine g_lv [3, 4, 5, 6, 1, 0] [(0, .ref (h 0)), (1, .int (nI (a))), (2, .int (g)), (3, .int (potS (τ.2 4) a 12)), (4, .int ((potS (τ.2 4) a i) + (τ.2 4 ((12 * a) + i)))), (5, .int (nI (i + 1)))] rfl ?_
        exact ih_12 (i + 1) (by omega) (by omega)
  refine g_lv [3, 4, 5, 2, 1, 0] [(0, .ref (h 0)), (1, .int (nI (a))), (2, .int (g)), (3, .int (potS (τ.2 4) a 12)), (4, .int (0)), (5, .int (0))] rfl ?_
  exact loop_12 13 0 (by omega) (by omega)
