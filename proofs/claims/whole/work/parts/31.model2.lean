/-! The reference, its inner methods. -/
set_option maxRecDepth 100000 in
set_option maxHeartbeats 4000000 in
theorem c_m_onPictures (l : Launch) (D : va_G) (cI cJ : ClassId) (h : Nat → Nat) (τ : gS) (np nt no ni : Nat) (hI : iM0 τ np nt no ni) (t : Nat) (ht : t < 12) : MC l yX1_onPictures wsX1_onPictures 0 0 D (tyIJ cI cJ) [.ref (h 0), .int (nI (t))] (wM cI h τ) (wM cI h τ) none (some (.int (isum (fun k => τ.2 6 (12 * k + t)) 96))) 0 := by
  have hI0 := hI
  obtain ⟨⟨hnp, hnp6⟩, ⟨hnt, hnt12⟩, ⟨hno, hno10⟩, ⟨hni, hni8⟩, hPT, hLC, hHS⟩ := hI
  refine MC.ofG (cc := cX1_onPictures) (maxL := 4) (ret := (some .int)) [(0, .ref (h 0)), (1, .int (nI (t)))] (by decide) rfl (Nat.le_of_ble_eq_true rfl) rfl ?_
  intro p e s m args below meth c C hr hout
  have hin : ∀ w ∈ wsX10, w ∈ wsX1_onPictures := fun w h => by first | exact List.mem_cons_of_mem _ (List.mem_append_right _ h) | exact List.mem_cons_of_mem _ (List.mem_append_left _ (List.mem_append_right _ h)) | exact List.mem_cons_of_mem _ (List.mem_append_left _ (List.mem_append_left _ (List.mem_append_right _ h))) | exact List.mem_cons_of_mem _ (List.mem_append_left _ (List.mem_append_left _ (List.mem_append_left _ (List.mem_append_right _ h)))) | exact List.mem_cons_of_mem _ (List.mem_append_left _ (List.mem_append_left _ (List.mem_append_left _ (List.mem_append_left _ (List.mem_append_right _ h)))))
  refine g_iconst 0 C dX1_onPictures_0 (by decide) ?_
  refine g_istore_n [(2, .int (0)), (0, .ref (h 0)), (1, .int (nI (t)))] C dX1_onPictures_1 rfl (by decide) rfl ?_
  refine g_iconst 0 C dX1_onPictures_2 (by decide) ?_
  refine g_istore_n [(3, .int (0)), (2, .int (0)), (0, .ref (h 0)), (1, .int (nI (t)))] C dX1_onPictures_3 rfl (by decide) rfl ?_
  have loop_4 : ∀ (fu : Nat) (i : Nat), i ≤ 96 → 97 ≤ i + fu → G p l e ({ frames := 0, cells := 0, slots := 6 * 0, locals := 0 } : Room) s m args below meth c D (va_A (wM cI h τ) s.heap.size) 4 0 0 (gQ below D (wM cI h τ) (wM cI h τ) none (some (.int (isum (fun k => τ.2 6 (12 * k + t)) 96))) 0 args s) (wM cI h τ) [(0, .ref (h 0)), (1, .int (nI (t))), (2, .int (isum (fun k => τ.2 6 (12 * k + t)) i)), (3, .int (nI (i)))] 4 [] := by
    intro fu
    induction fu with
    | zero => intro i hi hf; exact absurd True.intro (by omega)
    | succ fu ih_4 =>
      intro i hi hf
      refine g_iload_n 3 C rfl dX1_onPictures_4 rfl ?_
      refine g_bipush 96 C dX1_onPictures_5 (by decide) ?_
      refine g_icmp_ge 30 C dX1_onPictures_7 (by decide) (fun c_7_1 => ?_) (fun c_7_1 => ?_)
      ·
        have d_7_1 : 96 ≤ i := (nI_leI (a := 96) (b := i) (by omega) (by omega)).mp c_7_1
        refine g_iload_n 2 C rfl dX1_onPictures_30 rfl ?_
        exact g_iret C hr rfl dX1_onPictures_31 (Nat.zero_le _) (Nat.zero_le _) rfl (by rw [show i = 96 by omega]) rfl
      ·
        have d_7_1 : ¬ 96 ≤ i := fun zz => c_7_1 ((nI_leI (a := 96) (b := i) (by omega) (by omega)).mpr zz)
        refine g_iload_n 2 C rfl dX1_onPictures_10 rfl ?_
        refine g_aload_n 0 C rfl dX1_onPictures_11 rfl ?_
        refine g_get (C0 := RX1) (T := TX1) (N := 22) 0 1 11 (.ref (h 7)) C hin rfl rfl (by decide) (by decide +kernel) rfl dX1_onPictures_12 ?_
        refine g_bipush 12 C dX1_onPictures_15 (by decide) ?_
        refine g_iload_n 3 C rfl dX1_onPictures_17 rfl ?_
        refine g_imulN 12 i C dX1_onPictures_18 ?_
        refine g_iload_n 1 C rfl dX1_onPictures_19 rfl ?_
        refine g_iaddN (12 * i) t C dX1_onPictures_20 ?_
        refine g_ialdN (cA := cI) (n := 1152) (a := h 7) (f := τ.2 6) ((12 * i) + t) 7 0 C rfl rfl (by omega) (by decide) dX1_onPictures_21 ?_
        refine g_iadd C dX1_onPictures_22 ?_
        refine g_istore_n [(2, .int ((isum (fun k => τ.2 6 (12 * k + t)) i) + (τ.2 6 ((12 * i) + t)))), (0, .ref (h 0)), (1, .int (nI (t))), (3, .int (nI (i)))] C dX1_onPictures_23 rfl (by decide) rfl ?_
        refine g_iincN 3 i 1 [(3, .int (nI (i + 1))), (2, .int ((isum (fun k => τ.2 6 (12 * k + t)) i) + (τ.2 6 ((12 * i) + t)))), (0, .ref (h 0)), (1, .int (nI (t)))] C dX1_onPictures_24 rfl (by decide) (by decide) rfl ?_
        refine g_goto 4 C dX1_onPictures_27 (by decide) ?_
        refine g_lv [2, 3, 1, 0] [(0, .ref (h 0)), (1, .int (nI (t))), (2, .int ((isum (fun k => τ.2 6 (12 * k + t)) i) + (τ.2 6 ((12 * i) + t)))), (3, .int (nI (i + 1)))] rfl ?_
        exact ih_4 (i + 1) (by omega) (by omega)
  refine g_lv [2, 3, 1, 0] [(0, .ref (h 0)), (1, .int (nI (t))), (2, .int (0)), (3, .int (0))] rfl ?_
  exact loop_4 97 0 (by omega) (by omega)
set_option maxRecDepth 100000 in
set_option maxHeartbeats 4000000 in
theorem c_m_inPots (l : Launch) (D : va_G) (cI cJ : ClassId) (h : Nat → Nat) (τ : gS) (np nt no ni : Nat) (hI : iM0 τ np nt no ni) (t : Nat) (ht : t < 12) : MC l yX1_inPots wsX1_inPots 0 0 D (tyIJ cI cJ) [.ref (h 0), .int (nI (t))] (wM cI h τ) (wM cI h τ) none (some (.int (isum (fun k => τ.2 4 (12 * k + t)) no))) 0 := by
  have hI0 := hI
  obtain ⟨⟨hnp, hnp6⟩, ⟨hnt, hnt12⟩, ⟨hno, hno10⟩, ⟨hni, hni8⟩, hPT, hLC, hHS⟩ := hI
  refine MC.ofG (cc := cX1_inPots) (maxL := 4) (ret := (some .int)) [(0, .ref (h 0)), (1, .int (nI (t)))] (by decide) rfl (Nat.le_of_ble_eq_true rfl) rfl ?_
  intro p e s m args below meth c C hr hout
  have hin : ∀ w ∈ wsX10, w ∈ wsX1_inPots := fun w h => by first | exact List.mem_cons_of_mem _ (List.mem_append_right _ h) | exact List.mem_cons_of_mem _ (List.mem_append_left _ (List.mem_append_right _ h)) | exact List.mem_cons_of_mem _ (List.mem_append_left _ (List.mem_append_left _ (List.mem_append_right _ h))) | exact List.mem_cons_of_mem _ (List.mem_append_left _ (List.mem_append_left _ (List.mem_append_left _ (List.mem_append_right _ h)))) | exact List.mem_cons_of_mem _ (List.mem_append_left _ (List.mem_append_left _ (List.mem_append_left _ (List.mem_append_left _ (List.mem_append_right _ h)))))
  refine g_iconst 0 C dX1_inPots_0 (by decide) ?_
  refine g_istore_n [(2, .int (0)), (0, .ref (h 0)), (1, .int (nI (t)))] C dX1_inPots_1 rfl (by decide) rfl ?_
  refine g_iconst 0 C dX1_inPots_2 (by decide) ?_
  refine g_istore_n [(3, .int (0)), (2, .int (0)), (0, .ref (h 0)), (1, .int (nI (t)))] C dX1_inPots_3 rfl (by decide) rfl ?_
  have loop_4 : ∀ (fu : Nat) (i : Nat), i ≤ no → no + 1 ≤ i + fu → G p l e ({ frames := 0, cells := 0, slots := 6 * 0, locals := 0 } : Room) s m args below meth c D (va_A (wM cI h τ) s.heap.size) 4 0 0 (gQ below D (wM cI h τ) (wM cI h τ) none (some (.int (isum (fun k => τ.2 4 (12 * k + t)) no))) 0 args s) (wM cI h τ) [(0, .ref (h 0)), (1, .int (nI (t))), (2, .int (isum (fun k => τ.2 4 (12 * k + t)) i)), (3, .int (nI (i)))] 4 [] := by
    intro fu
    induction fu with
    | zero => intro i hi hf; exact absurd True.intro (by omega)
    | succ fu ih_4 =>
      intro i hi hf
      refine g_iload_n 3 C rfl dX1_inPots_4 rfl ?_
      refine g_aload_n 0 C rfl dX1_inPots_5 rfl ?_
      refine g_get (C0 := RX1) (T := TX1) (N := 22) 0 1 7 (.int (τ.1 3)) C hin rfl rfl (by decide) (by decide +kernel) rfl dX1_inPots_6 ?_
      refine g_is (nI no) hno ?_
      refine g_icmp_ge 32 C dX1_inPots_9 (by decide) (fun c_9_1 => ?_) (fun c_9_1 => ?_)
      ·
        have d_9_1 : no ≤ i := (nI_leI (a := no) (b := i) (by omega) (by omega)).mp c_9_1
        refine g_iload_n 2 C rfl dX1_inPots_32 rfl ?_
        exact g_iret C hr rfl dX1_inPots_33 (Nat.zero_le _) (Nat.zero_le _) rfl (by rw [show i = no by omega]) rfl
      ·
        have d_9_1 : ¬ no ≤ i := fun zz => c_9_1 ((nI_leI (a := no) (b := i) (by omega) (by omega)).mpr zz)
        refine g_iload_n 2 C rfl dX1_inPots_12 rfl ?_
        refine g_aload_n 0 C rfl dX1_inPots_13 rfl ?_
        refine g_get (C0 := RX1) (T := TX1) (N := 22) 0 1 8 (.ref (h 5)) C hin rfl rfl (by decide) (by decide +kernel) rfl dX1_inPots_14 ?_
        refine g_bipush 12 C dX1_inPots_17 (by decide) ?_
        refine g_iload_n 3 C rfl dX1_inPots_19 rfl ?_
        refine g_imulN 12 i C dX1_inPots_20 ?_
        refine g_iload_n 1 C rfl dX1_inPots_21 rfl ?_
        refine g_iaddN (12 * i) t C dX1_inPots_22 ?_
        refine g_ialdN (cA := cI) (n := 120) (a := h 5) (f := τ.2 4) ((12 * i) + t) 5 0 C rfl rfl (by omega) (by decide) dX1_inPots_23 ?_
        refine g_iadd C dX1_inPots_24 ?_
        refine g_istore_n [(2, .int ((isum (fun k => τ.2 4 (12 * k + t)) i) + (τ.2 4 ((12 * i) + t)))), (0, .ref (h 0)), (1, .int (nI (t))), (3, .int (nI (i)))] C dX1_inPots_25 rfl (by decide) rfl ?_
        refine g_iincN 3 i 1 [(3, .int (nI (i + 1))), (2, .int ((isum (fun k => τ.2 4 (12 * k + t)) i) + (τ.2 4 ((12 * i) + t)))), (0, .ref (h 0)), (1, .int (nI (t)))] C dX1_inPots_26 rfl (by decide) (by decide) rfl ?_
        refine g_goto 4 C dX1_inPots_29 (by decide) ?_
        refine g_lv [2, 3, 1, 0] [(0, .ref (h 0)), (1, .int (nI (t))), (2, .int ((isum (fun k => τ.2 4 (12 * k + t)) i) + (τ.2 4 ((12 * i) + t)))), (3, .int (nI (i + 1)))] rfl ?_
        exact ih_4 (i + 1) (by omega) (by omega)
  refine g_lv [2, 3, 1, 0] [(0, .ref (h 0)), (1, .int (nI (t))), (2, .int (0)), (3, .int (0))] rfl ?_
  exact loop_4 (no + 1) 0 (by omega) (by omega)
set_option maxRecDepth 100000 in
set_option maxHeartbeats 4000000 in
theorem c_m_main (l : Launch) (D : va_G) (cI cJ : ClassId) (h : Nat → Nat) (τ : gS) (np nt no ni : Nat) (hI : iM0 τ np nt no ni) (q : Nat) (hq : q < 8) : MC l yX1_main wsX1_main 1 21 D (tyIJ cI cJ) [.ref (h 0), .int (nI (q))] (wM cI h τ) (wM cI h (sA τ 15 (mnF τ nt (τ.2 15) q))) none (some (.int (mnM τ nt q))) 0 := by
  have hI0 := hI
  obtain ⟨⟨hnp, hnp6⟩, ⟨hnt, hnt12⟩, ⟨hno, hno10⟩, ⟨hni, hni8⟩, hPT, hLC, hHS⟩ := hI
  refine MC.ofG (cc := cX1_main) (maxL := 4) (ret := (some .int)) [(0, .ref (h 0)), (1, .int (nI (q)))] (by decide) rfl (Nat.le_of_ble_eq_true rfl) rfl ?_
  intro p e s m args below meth c C hr hout
  have hin : ∀ w ∈ wsX10, w ∈ wsX1_main := fun w h => by first | exact List.mem_cons_of_mem _ (List.mem_append_right _ h) | exact List.mem_cons_of_mem _ (List.mem_append_left _ (List.mem_append_right _ h)) | exact List.mem_cons_of_mem _ (List.mem_append_left _ (List.mem_append_left _ (List.mem_append_right _ h))) | exact List.mem_cons_of_mem _ (List.mem_append_left _ (List.mem_append_left _ (List.mem_append_left _ (List.mem_append_right _ h)))) | exact List.mem_cons_of_mem _ (List.mem_append_left _ (List.mem_append_left _ (List.mem_append_left _ (List.mem_append_left _ (List.mem_append_right _ h)))))
  refine g_aload_n 0 C rfl dX1_main_0 rfl ?_
  refine g_get (C0 := RX1) (T := TX1) (N := 22) 0 1 10 (.ref (h 6)) C hin rfl rfl (by decide) (by decide +kernel) rfl dX1_main_1 ?_
  refine g_iload_n 1 C rfl dX1_main_4 rfl ?_
  refine g_ialdN (cA := cI) (n := 8) (a := h 6) (f := τ.2 5) q 6 0 C rfl rfl (by omega) (by decide) dX1_main_5 ?_
  obtain ⟨jL, hjL, ejL⟩ := hLC q
  refine g_is (nI (jL)) ejL ?_
  refine g_if_ne 11 C dX1_main_6 (by decide) (fun c_6_1 => ?_) (fun c_6_1 => ?_)
  ·
    have d_6_1 : ¬ jL = 0 := fun zz => c_6_1 ((nI_eq (a := jL) (b := 0) (by omega) (by omega)).mpr zz)
    refine g_iconst 0 C dX1_main_11 (by decide) ?_
    refine g_istore_n [(2, .int (0)), (0, .ref (h 0)), (1, .int (nI (q)))] C dX1_main_12 rfl (by decide) rfl ?_
    have loop_13 : ∀ (fu : Nat) (i : Nat), i ≤ 6 → 7 ≤ i + fu → G p l e ({ frames := 1, cells := 0, slots := 6 * 0, locals := 21 } : Room) s m args below meth c D (va_A (wM cI h τ) s.heap.size) 4 0 0 (gQ below D (wM cI h τ) (wM cI h (sA τ 15 (mnF τ nt (τ.2 15) q))) none (some (.int (mnM τ nt q))) 0 args s) (wM cI h (sA τ 15 (fillF (τ.2 15) (fun _ => 0) i))) [(0, .ref (h 0)), (1, .int (nI (q))), (2, .int (nI (i)))] 13 [] := by
      intro fu
      induction fu with
      | zero => intro i hi hf; exact absurd True.intro (by omega)
      | succ fu ih_13 =>
        intro i hi hf
        refine g_iload_n 2 C rfl dX1_main_13 rfl ?_
        refine g_bipush 6 C dX1_main_14 (by decide) ?_
        refine g_icmp_ge 32 C dX1_main_16 (by decide) (fun c_16_2 => ?_) (fun c_16_2 => ?_)
        ·
          have d_16_2 : 6 ≤ i := (nI_leI (a := 6) (b := i) (by omega) (by omega)).mp c_16_2
          obtain rfl : i = 6 := by omega
          refine g_arr (f := fillF (τ.2 15) (fun _ => 0) 6) (f' := fun _ => 0) 16 (wM cI h (sA τ 15 (smF (τ.2 6) (τ.2 1) (12 * (12 * q + (jL - 1))) 0))) rfl rfl (fun i hi => fillF_at _ _ _ _ hi) ?_
          refine g_iconst 0 C dX1_main_32 (by decide) ?_
          refine g_istore_n [(2, .int (0)), (0, .ref (h 0)), (1, .int (nI (q)))] C dX1_main_33 rfl (by decide) rfl ?_
          have loop_34 : ∀ (fu : Nat) (t : Nat), t ≤ nt → nt + 1 ≤ t + fu → G p l e ({ frames := 1, cells := 0, slots := 6 * 0, locals := 21 } : Room) s m args below meth c D (va_A (wM cI h τ) s.heap.size) 4 0 0 (gQ below D (wM cI h τ) (wM cI h (sA τ 15 (mnF τ nt (τ.2 15) q))) none (some (.int (mnM τ nt q))) 0 args s) (wM cI h (sA τ 15 (smF (τ.2 6) (τ.2 1) (12 * (12 * q + (jL - 1))) t))) [(0, .ref (h 0)), (1, .int (nI (q))), (2, .int (nI (t)))] 34 [] := by
            intro fu
            induction fu with
            | zero => intro t hi2 hf2; exact absurd True.intro (by omega)
            | succ fu ih_34 =>
              intro t hi2 hf2
              refine g_iload_n 2 C rfl dX1_main_34 rfl ?_
              refine g_aload_n 0 C rfl dX1_main_35 rfl ?_
              refine g_get (C0 := RX1) (T := TX1) (N := 22) 0 1 3 (.int (τ.1 2)) C hin rfl rfl (by decide) (by decide +kernel) rfl dX1_main_36 ?_
              refine g_is (nI nt) hnt ?_
              refine g_icmp_ge 81 C dX1_main_39 (by decide) (fun c_39_3 => ?_) (fun c_39_3 => ?_)
              ·
                have d_39_3 : nt ≤ t := (nI_leI (a := nt) (b := t) (by omega) (by omega)).mp c_39_3
                obtain rfl : nt = t := by omega
                refine g_iconst 0 C dX1_main_81 (by decide) ?_
                refine g_istore_n [(2, .int (0)), (0, .ref (h 0)), (1, .int (nI (q)))] C dX1_main_82 rfl (by decide) rfl ?_
                refine g_iconst 1 C dX1_main_83 (by decide) ?_
                refine g_istore_n [(3, .int (1)), (2, .int (0)), (0, .ref (h 0)), (1, .int (nI (q)))] C dX1_main_84 rfl (by decide) rfl ?_
                have loop_85 : ∀ (fu : Nat) (k : Nat), k ≤ 5 → 6 ≤ k + fu → G p l e ({ frames := 1, cells := 0, slots := 6 * 0, locals := 21 } : Room) s m args below meth c D (va_A (wM cI h τ) s.heap.size) 4 0 0 (gQ below D (wM cI h τ) (wM cI h (sA τ 15 (mnF τ nt (τ.2 15) q))) none (some (.int (mnM τ nt q))) 0 args s) (wM cI h (sA τ 15 (smF (τ.2 6) (τ.2 1) (12 * (12 * q + (jL - 1))) nt))) [(0, .ref (h 0)), (2, .int (nI (bst (smF (τ.2 6) (τ.2 1) (12 * (12 * q + (jL - 1))) nt) k))), (3, .int (nI (k + 1)))] 85 [] := by
                  intro fu
                  induction fu with
                  | zero => intro k hi3 hf3; exact absurd True.intro (by omega)
                  | succ fu ih_85 =>
                    intro k hi3 hf3
                    refine g_iload_n 2 C rfl dX1_main_85 rfl ?_
                    refine g_bipush 6 C dX1_main_86 (by decide) ?_
                    refine g_icmp_ge 118 C dX1_main_88 (by decide) (fun c_88_4 => ?_) (fun c_88_4 => ?_)
                    ·
                      have d_88_4 : 6 ≤ (k + 1) := (nI_leI (a := 6) (b := (k + 1)) (by omega) (by omega)).mp c_88_4
                      refine g_iload_n 1 C rfl dX1_main_118 rfl ?_
                      exact g_iret C hr rfl dX1_main_119 (Nat.zero_le _) (Nat.zero_le _) rfl (congrArg (fun x => some (Value.int x)) (by rw [mnM, if_neg (by rw [ejL]; exact nI_ne0 (by omega) (by omega)), topB, ejL, cl_nI (by omega), show k = 5 by omega])) (by rw [mnF, if_neg (by rw [ejL]; exact nI_ne0 (by omega) (by omega)), topB, ejL, cl_nI (by omega)])
                    ·
                      have d_88_4 : ¬ 6 ≤ (k + 1) := fun zz => c_88_4 ((nI_leI (a := 6) (b := (k + 1)) (by omega) (by omega)).mpr zz)
                      refine g_aload_n 0 C rfl dX1_main_91 rfl ?_
                      refine g_get (C0 := RX1) (T := TX1) (N := 22) 0 1 21 (.ref (h 16)) C hin rfl rfl (by decide) (by decide +kernel) rfl dX1_main_92 ?_
                      refine g_iload_n 2 C rfl dX1_main_95 rfl ?_
                      refine g_ialdN (cA := cI) (n := 6) (a := h 16) (f := smF (τ.2 6) (τ.2 1) (12 * (12 * q + (jL - 1))) nt) (k + 1) 16 0 C rfl rfl (by omega) (by decide) dX1_main_96 ?_
                      refine g_aload_n 0 C rfl dX1_main_97 rfl ?_
                      refine g_get (C0 := RX1) (T := TX1) (N := 22) 0 1 21 (.ref (h 16)) C hin rfl rfl (by decide) (by decide +kernel) rfl dX1_main_98 ?_
                      refine g_iload_n 1 C rfl dX1_main_101 rfl ?_
                      refine g_ialdN (cA := cI) (n := 6) (a := h 16) (f := smF (τ.2 6) (τ.2 1) (12 * (12 * q + (jL - 1))) nt) (bst (smF (τ.2 6) (τ.2 1) (12 * (12 * q + (jL - 1))) nt) k) 16 0 C rfl rfl (by have := bst_le (smF (τ.2 6) (τ.2 1) (12 * (12 * q + (jL - 1))) nt) k; omega) (by decide) dX1_main_102 ?_
                      refine g_icmp_le 110 C dX1_main_103 (by decide) (fun c_103_5 => ?_) (fun c_103_5 => ?_)
                      ·
                        have ek : bst (smF (τ.2 6) (τ.2 1) (12 * (12 * q + (jL - 1))) nt) (k + 1) = bst (smF (τ.2 6) (τ.2 1) (12 * (12 * q + (jL - 1))) nt) k := if_pos c_103_5
                        refine g_iload_n 1 C rfl dX1_main_110 rfl ?_
                        refine g_istore_n [(2, .int (nI (bst (smF (τ.2 6) (τ.2 1) (12 * (12 * q + (jL - 1))) nt) k))), (0, .ref (h 0)), (3, .int (nI (k + 1)))] C dX1_main_111 rfl (by decide) rfl ?_
                        refine g_iincN 2 (k + 1) 1 [(3, .int (nI ((k + 1) + 1))), (2, .int (nI (bst (smF (τ.2 6) (τ.2 1) (12 * (12 * q + (jL - 1))) nt) k))), (0, .ref (h 0))] C dX1_main_112 rfl (by decide) (by decide) rfl ?_
                        refine g_goto 85 C dX1_main_115 (by decide) ?_
                        refine g_lv [2, 1, 0] [(0, .ref (h 0)), (2, .int (nI (bst (smF (τ.2 6) (τ.2 1) (12 * (12 * q + (jL - 1))) nt) k))), (3, .int (nI ((k + 1) + 1)))] rfl ?_
                        have hx := ih_85 (k + 1) (by omega) (by omega)
                        rw [ek] at hx
                        exact hx
                      ·
                        have ek : bst (smF (τ.2 6) (τ.2 1) (12 * (12 * q + (jL - 1))) nt) (k + 1) = k + 1 := if_neg c_103_5
                        refine g_iload_n 2 C rfl dX1_main_106 rfl ?_
                        refine g_goto 111 C dX1_main_107 (by decide) ?_
                        refine g_istore_n [(2, .int (nI (k + 1))), (0, .ref (h 0)), (3, .int (nI (k + 1)))] C dX1_main_111 rfl (by decide) rfl ?_
                        refine g_iincN 2 (k + 1) 1 [(3, .int (nI ((k + 1) + 1))), (2, .int (nI (k + 1))), (0, .ref (h 0))] C dX1_main_112 rfl (by decide) (by decide) rfl ?_
                        refine g_goto 85 C dX1_main_115 (by decide) ?_
                        refine g_lv [2, 1, 0] [(0, .ref (h 0)), (2, .int (nI (k + 1))), (3, .int (nI ((k + 1) + 1)))] rfl ?_
                        have hx := ih_85 (k + 1) (by omega) (by omega)
                        rw [ek] at hx
                        exact hx
                refine g_lv [2, 1, 0] [(0, .ref (h 0)), (2, .int (0)), (3, .int (1))] rfl ?_
                exact loop_85 6 0 (by omega) (by omega)
              ·
                have d_39_3 : ¬ nt ≤ t := fun zz => c_39_3 ((nI_leI (a := nt) (b := t) (by omega) (by omega)).mpr zz)
                refine g_aload_n 0 C rfl dX1_main_42 rfl ?_
                refine g_get (C0 := RX1) (T := TX1) (N := 22) 0 1 21 (.ref (h 16)) C hin rfl rfl (by decide) (by decide +kernel) rfl dX1_main_43 ?_
                refine g_aload_n 0 C rfl dX1_main_46 rfl ?_
                refine g_get (C0 := RX1) (T := TX1) (N := 22) 0 1 4 (.ref (h 2)) C hin rfl rfl (by decide) (by decide +kernel) rfl dX1_main_47 ?_
                refine g_iload_n 2 C rfl dX1_main_50 rfl ?_
                refine g_ialdN (cA := cI) (n := 12) (a := h 2) (f := τ.2 1) t 2 0 C rfl rfl (by omega) (by decide) dX1_main_51 ?_
                obtain ⟨jP, hjP, ejP⟩ := hPT t
                refine g_is (nI (jP)) ejP ?_
                refine g_dup2 C dX1_main_52 rfl rfl ?_
                refine g_ialdN (cA := cI) (n := 6) (a := h 16) (f := smF (τ.2 6) (τ.2 1) (12 * (12 * q + (jL - 1))) t) jP 16 0 C rfl rfl (by omega) (by decide) dX1_main_53 ?_
                refine g_aload_n 0 C rfl dX1_main_54 rfl ?_
                refine g_get (C0 := RX1) (T := TX1) (N := 22) 0 1 11 (.ref (h 7)) C hin rfl rfl (by decide) (by decide +kernel) rfl dX1_main_55 ?_
                refine g_iload_n 1 C rfl dX1_main_58 rfl ?_
                refine g_aload_n 0 C rfl dX1_main_59 rfl ?_
                refine g_get (C0 := RX1) (T := TX1) (N := 22) 0 1 10 (.ref (h 6)) C hin rfl rfl (by decide) (by decide +kernel) rfl dX1_main_60 ?_
                refine g_iload_n 1 C rfl dX1_main_63 rfl ?_
                refine g_ialdN (cA := cI) (n := 8) (a := h 6) (f := τ.2 5) q 6 0 C rfl rfl (by omega) (by decide) dX1_main_64 ?_
                refine g_is (nI (jL)) ejL ?_
                refine g_iconst 1 C dX1_main_65 (by decide) ?_
                refine g_isubN jL 1 C (by omega) dX1_main_66 ?_
                refine g_callS0 (na := 2) (av := [.int (nI (q)), .int (nI (jL - 1))]) (c_m_layerAt l D cI cJ _ q (jL - 1)) C gX1_main_X1_layerAt rfl (by decide +kernel) rfl ⟨Nat.le_of_ble_eq_true rfl, Nat.le_of_ble_eq_true rfl⟩ rfl (Nat.le_of_ble_eq_true rfl) ⟨Nat.zero_le _, Nat.zero_le _⟩ rfl dX1_main_67 ?_
                refine g_iload_n 2 C rfl dX1_main_70 rfl ?_
                refine g_iaddN (12 * (12 * q + (jL - 1))) t C dX1_main_71 ?_
                refine g_ialdN (cA := cI) (n := 1152) (a := h 7) (f := τ.2 6) ((12 * (12 * q + (jL - 1))) + t) 7 0 C rfl rfl (by omega) (by decide) dX1_main_72 ?_
                refine g_iadd C dX1_main_73 ?_
                refine g_iastN (cA := cI) (n := 6) (a := h 16) (f := smF (τ.2 6) (τ.2 1) (12 * (12 * q + (jL - 1))) t) (x := (((smF (τ.2 6) (τ.2 1) (12 * (12 * q + (jL - 1))) t) jP) + (τ.2 6 ((12 * (12 * q + (jL - 1))) + t)))) jP 16 0 (wM cI h (sA τ 15 (upd (smF (τ.2 6) (τ.2 1) (12 * (12 * q + (jL - 1))) t) jP ((((smF (τ.2 6) (τ.2 1) (12 * (12 * q + (jL - 1))) t) jP) + (τ.2 6 ((12 * (12 * q + (jL - 1))) + t))))))) C rfl rfl (by omega) (by decide) rfl dX1_main_74 ?_
                refine g_w (wM cI h (sA τ 15 (smF (τ.2 6) (τ.2 1) (12 * (12 * q + (jL - 1))) (t + 1)))) (by rw [smF, ejP, cl_nI (by omega)]) ?_
                refine g_iincN 2 t 1 [(2, .int (nI (t + 1))), (0, .ref (h 0)), (1, .int (nI (q)))] C dX1_main_75 rfl (by decide) (by decide) rfl ?_
                refine g_goto 34 C dX1_main_78 (by decide) ?_
                refine g_lv [1, 2, 0] [(0, .ref (h 0)), (1, .int (nI (q))), (2, .int (nI (t + 1)))] rfl ?_
                exact ih_34 (t + 1) (by omega) (by omega)
          refine g_lv [1, 2, 0] [(0, .ref (h 0)), (1, .int (nI (q))), (2, .int (0))] rfl ?_
          exact loop_34 (nt + 1) 0 (by omega) (by omega)
        ·
          have d_16_2 : ¬ 6 ≤ i := fun zz => c_16_2 ((nI_leI (a := 6) (b := i) (by omega) (by omega)).mpr zz)
          refine g_aload_n 0 C rfl dX1_main_19 rfl ?_
          refine g_get (C0 := RX1) (T := TX1) (N := 22) 0 1 21 (.ref (h 16)) C hin rfl rfl (by decide) (by decide +kernel) rfl dX1_main_20 ?_
          refine g_iload_n 2 C rfl dX1_main_23 rfl ?_
          refine g_iconst 0 C dX1_main_24 (by decide) ?_
          refine g_iastN (cA := cI) (n := 6) (a := h 16) (f := fillF (τ.2 15) (fun _ => 0) i) (x := 0) i 16 0 (wM cI h (sA τ 15 (upd (fillF (τ.2 15) (fun _ => 0) i) i (0)))) C rfl rfl (by omega) (by decide) rfl dX1_main_25 ?_
          refine g_iincN 2 i 1 [(2, .int (nI (i + 1))), (0, .ref (h 0)), (1, .int (nI (q)))] C dX1_main_26 rfl (by decide) (by decide) rfl ?_
          refine g_goto 13 C dX1_main_29 (by decide) ?_
          refine g_lv [1, 2, 0] [(0, .ref (h 0)), (1, .int (nI (q))), (2, .int (nI (i + 1)))] rfl ?_
          exact ih_13 (i + 1) (by omega) (by omega)
    refine g_lv [1, 2, 0] [(0, .ref (h 0)), (1, .int (nI (q))), (2, .int (0))] rfl ?_
    exact loop_13 7 0 (by omega) (by omega)
  ·
    have d_6_1 : jL = 0 := (nI_eq (a := jL) (b := 0) (by omega) (by omega)).mp c_6_1
    refine g_iconst (-1) C dX1_main_9 (by decide) ?_
    exact g_iret C hr rfl dX1_main_10 (Nat.zero_le _) (Nat.zero_le _) rfl (congrArg (fun x => some (Value.int x)) (by rw [mnM, if_pos (by rw [ejL, d_6_1]; rfl)])) (by rw [mnF, if_pos (by rw [ejL, d_6_1]; rfl)]; rfl)
set_option maxRecDepth 100000 in
set_option maxHeartbeats 4000000 in
theorem c_m_look (l : Launch) (D : va_G) (cI cJ : ClassId) (h : Nat → Nat) (τ : gS) (np nt no ni : Nat) (hI : iM0 τ np nt no ni) (q ch : Nat) (hq : q < 8) (hc : ch < 3) (hz : ¬ τ.2 5 q = 0 → ¬ isum (fun t => τ.2 6 (topB τ q + t)) nt = 0) : MC l yX1_look wsX1_look 1 21 D (tyIJ cI cJ) [.ref (h 0), .int (nI (q)), .int (nI (ch))] (wM cI h τ) (wM cI h τ) none (some (.int (lkM τ nt q ch))) 0 := by
  have hI0 := hI
  obtain ⟨⟨hnp, hnp6⟩, ⟨hnt, hnt12⟩, ⟨hno, hno10⟩, ⟨hni, hni8⟩, hPT, hLC, hHS⟩ := hI
  refine MC.ofG (cc := cX1_look) (maxL := 7) (ret := (some .int)) [(0, .ref (h 0)), (1, .int (nI (q))), (2, .int (nI (ch)))] (by decide) rfl (Nat.le_of_ble_eq_true rfl) rfl ?_
  intro p e s m args below meth c C hr hout
  have hin : ∀ w ∈ wsX10, w ∈ wsX1_look := fun w h => by first | exact List.mem_cons_of_mem _ (List.mem_append_right _ h) | exact List.mem_cons_of_mem _ (List.mem_append_left _ (List.mem_append_right _ h)) | exact List.mem_cons_of_mem _ (List.mem_append_left _ (List.mem_append_left _ (List.mem_append_right _ h))) | exact List.mem_cons_of_mem _ (List.mem_append_left _ (List.mem_append_left _ (List.mem_append_left _ (List.mem_append_right _ h)))) | exact List.mem_cons_of_mem _ (List.mem_append_left _ (List.mem_append_left _ (List.mem_append_left _ (List.mem_append_left _ (List.mem_append_right _ h)))))
  refine g_aload_n 0 C rfl dX1_look_0 rfl ?_
  refine g_get (C0 := RX1) (T := TX1) (N := 22) 0 1 10 (.ref (h 6)) C hin rfl rfl (by decide) (by decide +kernel) rfl dX1_look_1 ?_
  refine g_iload_n 1 C rfl dX1_look_4 rfl ?_
  refine g_ialdN (cA := cI) (n := 8) (a := h 6) (f := τ.2 5) q 6 0 C rfl rfl (by omega) (by decide) dX1_look_5 ?_
  obtain ⟨jL, hjL, ejL⟩ := hLC q
  refine g_is (nI (jL)) ejL ?_
  refine g_if_ne 11 C dX1_look_6 (by decide) (fun c_6_1 => ?_) (fun c_6_1 => ?_)
  ·
    have d_6_1 : ¬ jL = 0 := fun zz => c_6_1 ((nI_eq (a := jL) (b := 0) (by omega) (by omega)).mpr zz)
    have hn0 : ¬ τ.2 5 q = 0 := by rw [ejL]; exact nI_ne0 (by omega) (by omega)
    have etB : topB τ q = (12 * (12 * q + (jL - 1))) := by rw [topB, ejL, cl_nI (by omega)]
    have hz1 := hz hn0
    rw [etB] at hz1
    refine g_iconst 0 C dX1_look_11 (by decide) ?_
    refine g_istore_n [(3, .int (0)), (0, .ref (h 0)), (1, .int (nI (q))), (2, .int (nI (ch)))] C dX1_look_12 rfl (by decide) rfl ?_
    refine g_iconst 0 C dX1_look_13 (by decide) ?_
    refine g_istore [(4, .int (0)), (3, .int (0)), (0, .ref (h 0)), (1, .int (nI (q))), (2, .int (nI (ch)))] C dX1_look_14 (by decide) rfl ?_
    refine g_iconst 0 C dX1_look_16 (by decide) ?_
    refine g_istore [(5, .int (0)), (4, .int (0)), (3, .int (0)), (0, .ref (h 0)), (1, .int (nI (q))), (2, .int (nI (ch)))] C dX1_look_17 (by decide) rfl ?_
    have loop_19 : ∀ (fu : Nat) (t : Nat), t ≤ nt → nt + 1 ≤ t + fu → G p l e ({ frames := 1, cells := 0, slots := 6 * 0, locals := 21 } : Room) s m args below meth c D (va_A (wM cI h τ) s.heap.size) 7 0 0 (gQ below D (wM cI h τ) (wM cI h τ) none (some (.int (lkM τ nt q ch))) 0 args s) (wM cI h τ) [(0, .ref (h 0)), (1, .int (nI (q))), (2, .int (nI (ch))), (3, .int (isum (fun t => τ.2 6 ((12 * (12 * q + (jL - 1))) + t)) t)), (4, .int (isum (fun t => τ.2 6 ((12 * (12 * q + (jL - 1))) + t) * colM τ t ch) t)), (5, .int (nI (t)))] 19 [] := by
      intro fu
      induction fu with
      | zero => intro t hi hf; exact absurd True.intro (by omega)
      | succ fu ih_19 =>
        intro t hi hf
        refine g_iload 5 C rfl dX1_look_19 ?_
        refine g_aload_n 0 C rfl dX1_look_21 rfl ?_
        refine g_get (C0 := RX1) (T := TX1) (N := 22) 0 1 3 (.int (τ.1 2)) C hin rfl rfl (by decide) (by decide +kernel) rfl dX1_look_22 ?_
        refine g_is (nI nt) hnt ?_
        refine g_icmp_ge 85 C dX1_look_25 (by decide) (fun c_25_2 => ?_) (fun c_25_2 => ?_)
        ·
          have d_25_2 : nt ≤ t := (nI_leI (a := nt) (b := t) (by omega) (by omega)).mp c_25_2
          obtain rfl : nt = t := by omega
          refine g_iload 4 C rfl dX1_look_85 ?_
          refine g_iload_n 3 C rfl dX1_look_87 rfl ?_
          refine g_idiv C hz1 dX1_look_88 ?_
          exact g_iret C hr rfl dX1_look_89 (Nat.zero_le _) (Nat.zero_le _) rfl (congrArg (fun x => some (Value.int x)) (by rw [lkM, if_neg hn0, etB])) rfl
        ·
          have d_25_2 : ¬ nt ≤ t := fun zz => c_25_2 ((nI_leI (a := nt) (b := t) (by omega) (by omega)).mpr zz)
          refine g_aload_n 0 C rfl dX1_look_28 rfl ?_
          refine g_get (C0 := RX1) (T := TX1) (N := 22) 0 1 11 (.ref (h 7)) C hin rfl rfl (by decide) (by decide +kernel) rfl dX1_look_29 ?_
          refine g_iload_n 1 C rfl dX1_look_32 rfl ?_
          refine g_aload_n 0 C rfl dX1_look_33 rfl ?_
          refine g_get (C0 := RX1) (T := TX1) (N := 22) 0 1 10 (.ref (h 6)) C hin rfl rfl (by decide) (by decide +kernel) rfl dX1_look_34 ?_
          refine g_iload_n 1 C rfl dX1_look_37 rfl ?_
          refine g_ialdN (cA := cI) (n := 8) (a := h 6) (f := τ.2 5) q 6 0 C rfl rfl (by omega) (by decide) dX1_look_38 ?_
          refine g_is (nI (jL)) ejL ?_
          refine g_iconst 1 C dX1_look_39 (by decide) ?_
          refine g_isubN jL 1 C (by omega) dX1_look_40 ?_
          refine g_callS0 (na := 2) (av := [.int (nI (q)), .int (nI (jL - 1))]) (c_m_layerAt l D cI cJ _ q (jL - 1)) C gX1_look_X1_layerAt rfl (by decide +kernel) rfl ⟨Nat.le_of_ble_eq_true rfl, Nat.le_of_ble_eq_true rfl⟩ rfl (Nat.le_of_ble_eq_true rfl) ⟨Nat.zero_le _, Nat.zero_le _⟩ rfl dX1_look_41 ?_
          refine g_iload 5 C rfl dX1_look_44 ?_
          refine g_iaddN (12 * (12 * q + (jL - 1))) t C dX1_look_46 ?_
          refine g_ialdN (cA := cI) (n := 1152) (a := h 7) (f := τ.2 6) ((12 * (12 * q + (jL - 1))) + t) 7 0 C rfl rfl (by omega) (by decide) dX1_look_47 ?_
          refine g_istore [(6, .int (τ.2 6 ((12 * (12 * q + (jL - 1))) + t))), (0, .ref (h 0)), (1, .int (nI (q))), (2, .int (nI (ch))), (3, .int (isum (fun t => τ.2 6 ((12 * (12 * q + (jL - 1))) + t)) t)), (4, .int (isum (fun t => τ.2 6 ((12 * (12 * q + (jL - 1))) + t) * colM τ t ch) t)), (5, .int (nI (t)))] C dX1_look_48 (by decide) rfl ?_
          refine g_iload_n 4 C rfl dX1_look_50 rfl ?_
          refine g_iload 0 C rfl dX1_look_51 ?_
          refine g_iadd C dX1_look_53 ?_
          refine g_istore_n [(3, .int ((isum (fun t => τ.2 6 ((12 * (12 * q + (jL - 1))) + t)) t) + (τ.2 6 ((12 * (12 * q + (jL - 1))) + t)))), (6, .int (τ.2 6 ((12 * (12 * q + (jL - 1))) + t))), (0, .ref (h 0)), (1, .int (nI (q))), (2, .int (nI (ch))), (4, .int (isum (fun t => τ.2 6 ((12 * (12 * q + (jL - 1))) + t) * colM τ t ch) t)), (5, .int (nI (t)))] C dX1_look_54 rfl (by decide) rfl ?_
          refine g_iload 5 C rfl dX1_look_55 ?_
          refine g_iload 1 C rfl dX1_look_57 ?_
          refine g_aload_n 2 C rfl dX1_look_59 rfl ?_
          refine g_get (C0 := RX1) (T := TX1) (N := 22) 0 1 2 (.ref (h 1)) C hin rfl rfl (by decide) (by decide +kernel) rfl dX1_look_60 ?_
          refine g_iconst 3 C dX1_look_63 (by decide) ?_
          refine g_aload_n 2 C rfl dX1_look_64 rfl ?_
          refine g_get (C0 := RX1) (T := TX1) (N := 22) 0 1 4 (.ref (h 2)) C hin rfl rfl (by decide) (by decide +kernel) rfl dX1_look_65 ?_
          refine g_iload 6 C rfl dX1_look_68 ?_
          refine g_ialdN (cA := cI) (n := 12) (a := h 2) (f := τ.2 1) t 2 0 C rfl rfl (by omega) (by decide) dX1_look_70 ?_
          obtain ⟨jP, hjP, ejP⟩ := hPT t
          refine g_is (nI (jP)) ejP ?_
          refine g_imulN 3 jP C dX1_look_71 ?_
          refine g_iload_n 4 C rfl dX1_look_72 rfl ?_
          refine g_iaddN (3 * jP) ch C dX1_look_73 ?_
          refine g_ialdN (cA := cI) (n := 18) (a := h 1) (f := τ.2 0) ((3 * jP) + ch) 1 0 C rfl rfl (by omega) (by decide) dX1_look_74 ?_
          refine g_is ((colM τ t ch)) (by rw [colM, ejP, cl_nI (by omega)]) ?_
          refine g_imul C dX1_look_75 ?_
          refine g_iadd C dX1_look_76 ?_
          refine g_istore [(4, .int ((isum (fun t => τ.2 6 ((12 * (12 * q + (jL - 1))) + t) * colM τ t ch) t) + ((τ.2 6 ((12 * (12 * q + (jL - 1))) + t)) * (colM τ t ch)))), (3, .int ((isum (fun t => τ.2 6 ((12 * (12 * q + (jL - 1))) + t)) t) + (τ.2 6 ((12 * (12 * q + (jL - 1))) + t)))), (6, .int (τ.2 6 ((12 * (12 * q + (jL - 1))) + t))), (0, .ref (h 0)), (1, .int (nI (q))), (2, .int (nI (ch))), (5, .int (nI (t)))] C dX1_look_77 (by decide) rfl ?_
          refine g_iincN 6 t 1 [(5, .int (nI (t + 1))), (4, .int ((isum (fun t => τ.2 6 ((12 * (12 * q + (jL - 1))) + t) * colM τ t ch) t) + ((τ.2 6 ((12 * (12 * q + (jL - 1))) + t)) * (colM τ t ch)))), (3, .int ((isum (fun t => τ.2 6 ((12 * (12 * q + (jL - 1))) + t)) t) + (τ.2 6 ((12 * (12 * q + (jL - 1))) + t)))), (6, .int (τ.2 6 ((12 * (12 * q + (jL - 1))) + t))), (0, .ref (h 0)), (1, .int (nI (q))), (2, .int (nI (ch)))] C dX1_look_79 rfl (by decide) (by decide) rfl ?_
          refine g_goto 19 C dX1_look_82 (by decide) ?_
          refine g_lv [4, 5, 6, 2, 1, 0] [(0, .ref (h 0)), (1, .int (nI (q))), (2, .int (nI (ch))), (3, .int ((isum (fun t => τ.2 6 ((12 * (12 * q + (jL - 1))) + t)) t) + (τ.2 6 ((12 * (12 * q + (jL - 1))) + t)))), (4, .int ((isum (fun t => τ.2 6 ((12 * (12 * q + (jL - 1))) + t) * colM τ t ch) t) + ((τ.2 6 ((12 * (12 * q + (jL - 1))) + t)) * (colM τ t ch)))), (5, .int (nI (t + 1)))] rfl ?_
          exact ih_19 (t + 1) (by omega) (by omega)
    refine g_lv [3, 4, 5, 2, 1, 0] [(0, .ref (h 0)), (1, .int (nI (q))), (2, .int (nI (ch))), (3, .int (0)), (4, .int (0)), (5, .int (0))] rfl ?_
    exact loop_19 (nt + 1) 0 (by omega) (by omega)
  ·
    have d_6_1 : jL = 0 := (nI_eq (a := jL) (b := 0) (by omega) (by omega)).mp c_6_1
    refine g_iconst (-1) C dX1_look_9 (by decide) ?_
    exact g_iret C hr rfl dX1_look_10 (Nat.zero_le _) (Nat.zero_le _) rfl (congrArg (fun x => some (Value.int x)) (by rw [lkM, if_pos (by rw [ejL, d_6_1]; rfl)])) rfl
set_option maxRecDepth 100000 in
set_option maxHeartbeats 4000000 in
theorem c_m_value (l : Launch) (D : va_G) (cI cJ : ClassId) (h : Nat → Nat) (τ : gS) (np nt no ni : Nat) (hI : iM0 τ np nt no ni) (q : Nat) (hq : q < 8) : MC l yX1_value wsX1_value 2 44 D (tyIJ cI cJ) [.ref (h 0), .int (nI (q))] (wM cI h τ) (wM cI h (sA τ 15 (valF τ nt ni q))) none (some (.int (valM τ nt ni q))) 0 := by
  have hI0 := hI
  obtain ⟨⟨hnp, hnp6⟩, ⟨hnt, hnt12⟩, ⟨hno, hno10⟩, ⟨hni, hni8⟩, hPT, hLC, hHS⟩ := hI
  refine MC.ofG (cc := cX1_value) (maxL := 7) (ret := (some .int)) [(0, .ref (h 0)), (1, .int (nI (q)))] (by decide) rfl (Nat.le_of_ble_eq_true rfl) rfl ?_
  intro p e s m args below meth c C hr hout
  have hin : ∀ w ∈ wsX10, w ∈ wsX1_value := fun w h => by first | exact List.mem_cons_of_mem _ (List.mem_append_right _ h) | exact List.mem_cons_of_mem _ (List.mem_append_left _ (List.mem_append_right _ h)) | exact List.mem_cons_of_mem _ (List.mem_append_left _ (List.mem_append_left _ (List.mem_append_right _ h))) | exact List.mem_cons_of_mem _ (List.mem_append_left _ (List.mem_append_left _ (List.mem_append_left _ (List.mem_append_right _ h)))) | exact List.mem_cons_of_mem _ (List.mem_append_left _ (List.mem_append_left _ (List.mem_append_left _ (List.mem_append_left _ (List.mem_append_right _ h)))))
  refine g_aload_n 0 C rfl dX1_value_0 rfl ?_
  refine g_iload_n 1 C rfl dX1_value_1 rfl ?_
  refine g_callV0 (C0 := RX1) (T := TX1) (N := 22) (ci := 1) (na := 1) (As := [.int (nI (q))]) (c_m_main l D cI cJ h τ np nt no ni hI0 q (by omega)) C gX1_value_X1_main rfl (by decide +kernel) rfl ⟨Nat.le_of_ble_eq_true rfl, Nat.le_of_ble_eq_true rfl⟩ rfl rfl rfl (Nat.le_of_ble_eq_true rfl) ⟨Nat.zero_le _, Nat.zero_le _⟩ rfl dX1_value_2 ?_
  refine g_w (wM cI h (sA τ 15 (mnF τ nt (τ.2 15) q))) rfl ?_
  refine g_is ((mnM τ nt q)) rfl ?_
  refine g_istore_n [(2, .int (mnM τ nt q)), (0, .ref (h 0)), (1, .int (nI (q)))] C dX1_value_5 rfl (by decide) rfl ?_
  refine g_iconst 0 C dX1_value_6 (by decide) ?_
  refine g_istore_n [(3, .int (0)), (2, .int (mnM τ nt q)), (0, .ref (h 0)), (1, .int (nI (q)))] C dX1_value_7 rfl (by decide) rfl ?_
  refine g_iconst 0 C dX1_value_8 (by decide) ?_
  refine g_istore [(4, .int (0)), (3, .int (0)), (2, .int (mnM τ nt q)), (0, .ref (h 0)), (1, .int (nI (q)))] C dX1_value_9 (by decide) rfl ?_
  refine g_iconst 0 C dX1_value_11 (by decide) ?_
  refine g_istore [(5, .int (0)), (4, .int (0)), (3, .int (0)), (2, .int (mnM τ nt q)), (0, .ref (h 0)), (1, .int (nI (q)))] C dX1_value_12 (by decide) rfl ?_
  have loop_14 : ∀ (fu : Nat) (n : Nat), n ≤ ni → ni + 1 ≤ n + fu → G p l e ({ frames := 2, cells := 0, slots := 6 * 0, locals := 44 } : Room) s m args below meth c D (va_A (wM cI h τ) s.heap.size) 7 0 0 (gQ below D (wM cI h τ) (wM cI h (sA τ 15 (valF τ nt ni q))) none (some (.int (valM τ nt ni q))) 0 args s) (wM cI h (sA τ 15 (vsF τ nt (mnM τ nt q) (mnF τ nt (τ.2 15) q) n))) [(0, .ref (h 0)), (1, .int (nI (q))), (2, .int (mnM τ nt q)), (3, .int ((vlP τ nt (mnM τ nt q) n).1)), (4, .int ((vlP τ nt (mnM τ nt q) n).2)), (5, .int (nI (n)))] 14 [] := by
    intro fu
    induction fu with
    | zero => intro n hi hf; exact absurd True.intro (by omega)
    | succ fu ih_14 =>
      intro n hi hf
      refine g_iload 5 C rfl dX1_value_14 ?_
      refine g_aload_n 0 C rfl dX1_value_16 rfl ?_
      refine g_get (C0 := RX1) (T := TX1) (N := 22) 0 1 9 (.int (τ.1 4)) C hin rfl rfl (by decide) (by decide +kernel) rfl dX1_value_17 ?_
      refine g_is (nI ni) hni ?_
      refine g_icmp_ge 67 C dX1_value_20 (by decide) (fun c_20_1 => ?_) (fun c_20_1 => ?_)
      ·
        have d_20_1 : ni ≤ n := (nI_leI (a := ni) (b := n) (by omega) (by omega)).mp c_20_1
        obtain rfl : ni = n := by omega
        refine g_iload 4 C rfl dX1_value_67 ?_
        refine g_if_ne 76 C dX1_value_69 (by decide) (fun c_69_2 => ?_) (fun c_69_2 => ?_)
        ·
          have cz := c_69_2
          refine g_iload_n 3 C rfl dX1_value_76 rfl ?_
          refine g_iload 4 C rfl dX1_value_77 ?_
          refine g_idiv C cz dX1_value_79 ?_
          refine g_is ((meanM τ nt ni q)) (by rw [meanM, if_neg cz]) ?_
          refine g_istore [(5, .int (meanM τ nt ni q)), (0, .ref (h 0)), (1, .int (nI (q))), (2, .int (mnM τ nt q)), (3, .int ((vlP τ nt (mnM τ nt q) ni).1)), (4, .int ((vlP τ nt (mnM τ nt q) ni).2))] C dX1_value_80 (by decide) rfl ?_
          refine g_iload 0 C rfl dX1_value_82 ?_
          refine g_aload_n 1 C rfl dX1_value_84 rfl ?_
          refine g_get (C0 := RX1) (T := TX1) (N := 22) 0 1 12 (.ref (h 8)) C hin rfl rfl (by decide) (by decide +kernel) rfl dX1_value_85 ?_
          refine g_iload_n 2 C rfl dX1_value_88 rfl ?_
          refine g_ialdN (cA := cI) (n := 8) (a := h 8) (f := τ.2 7) q 8 0 C rfl rfl (by omega) (by decide) dX1_value_89 ?_
          refine g_iload 0 C rfl dX1_value_90 ?_
          refine g_bipush 20 C dX1_value_92 (by decide) ?_
          refine g_idiv C (by decide) dX1_value_94 ?_
          refine g_imul C dX1_value_95 ?_
          refine g_isub C dX1_value_96 ?_
          refine g_istore [(6, .int ((meanM τ nt ni q) - ((τ.2 7 q) * ((meanM τ nt ni q) / 20)))), (5, .int (meanM τ nt ni q)), (0, .ref (h 0)), (1, .int (nI (q))), (2, .int (mnM τ nt q)), (3, .int ((vlP τ nt (mnM τ nt q) ni).1)), (4, .int ((vlP τ nt (mnM τ nt q) ni).2))] C dX1_value_97 (by decide) rfl ?_
          refine g_iload 0 C rfl dX1_value_99 ?_
          refine g_if_ge 108 C dX1_value_101 (by decide) (fun c_101_3 => ?_) (fun c_101_3 => ?_)
          ·
            refine g_iload 0 C rfl dX1_value_108 ?_
            exact g_iret C hr rfl dX1_value_110 (Nat.zero_le _) (Nat.zero_le _) rfl (congrArg (fun x => some (Value.int x)) (by rw [valM, if_pos (show 0 ≤ wrtM τ nt ni q from c_101_3)]; rfl)) rfl
          ·
            refine g_iconst 0 C dX1_value_104 (by decide) ?_
            refine g_goto 110 C dX1_value_105 (by decide) ?_
            exact g_iret C hr rfl dX1_value_110 (Nat.zero_le _) (Nat.zero_le _) rfl (congrArg (fun x => some (Value.int x)) (by rw [valM, if_neg (show ¬ 0 ≤ wrtM τ nt ni q from c_101_3)])) rfl
        ·
          have cz := c_69_2
          refine g_iconst 0 C dX1_value_72 (by decide) ?_
          refine g_goto 80 C dX1_value_73 (by decide) ?_
          refine g_is ((meanM τ nt ni q)) (by rw [meanM, if_pos cz]) ?_
          refine g_istore [(5, .int (meanM τ nt ni q)), (0, .ref (h 0)), (1, .int (nI (q))), (2, .int (mnM τ nt q)), (3, .int ((vlP τ nt (mnM τ nt q) ni).1)), (4, .int ((vlP τ nt (mnM τ nt q) ni).2))] C dX1_value_80 (by decide) rfl ?_
          refine g_iload 0 C rfl dX1_value_82 ?_
          refine g_aload_n 1 C rfl dX1_value_84 rfl ?_
          refine g_get (C0 := RX1) (T := TX1) (N := 22) 0 1 12 (.ref (h 8)) C hin rfl rfl (by decide) (by decide +kernel) rfl dX1_value_85 ?_
          refine g_iload_n 2 C rfl dX1_value_88 rfl ?_
          refine g_ialdN (cA := cI) (n := 8) (a := h 8) (f := τ.2 7) q 8 0 C rfl rfl (by omega) (by decide) dX1_value_89 ?_
          refine g_iload 0 C rfl dX1_value_90 ?_
          refine g_bipush 20 C dX1_value_92 (by decide) ?_
          refine g_idiv C (by decide) dX1_value_94 ?_
          refine g_imul C dX1_value_95 ?_
          refine g_isub C dX1_value_96 ?_
          refine g_istore [(6, .int ((meanM τ nt ni q) - ((τ.2 7 q) * ((meanM τ nt ni q) / 20)))), (5, .int (meanM τ nt ni q)), (0, .ref (h 0)), (1, .int (nI (q))), (2, .int (mnM τ nt q)), (3, .int ((vlP τ nt (mnM τ nt q) ni).1)), (4, .int ((vlP τ nt (mnM τ nt q) ni).2))] C dX1_value_97 (by decide) rfl ?_
          refine g_iload 0 C rfl dX1_value_99 ?_
          refine g_if_ge 108 C dX1_value_101 (by decide) (fun c_101_4 => ?_) (fun c_101_4 => ?_)
          ·
            refine g_iload 0 C rfl dX1_value_108 ?_
            exact g_iret C hr rfl dX1_value_110 (Nat.zero_le _) (Nat.zero_le _) rfl (congrArg (fun x => some (Value.int x)) (by rw [valM, if_pos (show 0 ≤ wrtM τ nt ni q from c_101_4)]; rfl)) rfl
          ·
            refine g_iconst 0 C dX1_value_104 (by decide) ?_
            refine g_goto 110 C dX1_value_105 (by decide) ?_
            exact g_iret C hr rfl dX1_value_110 (Nat.zero_le _) (Nat.zero_le _) rfl (congrArg (fun x => some (Value.int x)) (by rw [valM, if_neg (show ¬ 0 ≤ wrtM τ nt ni q from c_101_4)])) rfl
      ·
        have d_20_1 : ¬ ni ≤ n := fun zz => c_20_1 ((nI_leI (a := ni) (b := n) (by omega) (by omega)).mpr zz)
        refine g_iload_n 2 C rfl dX1_value_23 rfl ?_
        refine g_iconst (-1) C dX1_value_24 (by decide) ?_
        refine g_icmp_eq 61 C dX1_value_25 (by decide) (fun c_25_5 => ?_) (fun c_25_5 => ?_)
        ·
          have ek1 : vsF τ nt (mnM τ nt q) (mnF τ nt (τ.2 15) q) (n + 1) = vsF τ nt (mnM τ nt q) (mnF τ nt (τ.2 15) q) n := if_pos (Or.inl c_25_5)
          have ek2 : vlP τ nt (mnM τ nt q) (n + 1) = vlP τ nt (mnM τ nt q) n := if_neg (fun z => z.1 (Or.inl c_25_5))
          refine g_iincN 5 n 1 [(5, .int (nI (n + 1))), (0, .ref (h 0)), (1, .int (nI (q))), (2, .int (mnM τ nt q)), (3, .int ((vlP τ nt (mnM τ nt q) n).1)), (4, .int ((vlP τ nt (mnM τ nt q) n).2))] C dX1_value_61 rfl (by decide) (by decide) rfl ?_
          refine g_goto 14 C dX1_value_64 (by decide) ?_
          refine g_lv [1, 2, 3, 4, 5, 0] [(0, .ref (h 0)), (1, .int (nI (q))), (2, .int (mnM τ nt q)), (3, .int ((vlP τ nt (mnM τ nt q) n).1)), (4, .int ((vlP τ nt (mnM τ nt q) n).2)), (5, .int (nI (n + 1)))] rfl ?_
          have hx := ih_14 (n + 1) (by omega) (by omega)
          rw [ek1, ek2] at hx
          exact hx
        ·
          have c1 := c_25_5
          refine g_aload_n 0 C rfl dX1_value_28 rfl ?_
          refine g_get (C0 := RX1) (T := TX1) (N := 22) 0 1 13 (.ref (h 9)) C hin rfl rfl (by decide) (by decide +kernel) rfl dX1_value_29 ?_
          refine g_iload 5 C rfl dX1_value_32 ?_
          refine g_ialdN (cA := cI) (n := 8) (a := h 9) (f := τ.2 8) n 9 0 C rfl rfl (by omega) (by decide) dX1_value_34 ?_
          refine g_if_le 61 C dX1_value_35 (by decide) (fun c_35_6 => ?_) (fun c_35_6 => ?_)
          ·
            have ek1 : vsF τ nt (mnM τ nt q) (mnF τ nt (τ.2 15) q) (n + 1) = vsF τ nt (mnM τ nt q) (mnF τ nt (τ.2 15) q) n := if_pos (Or.inr c_35_6)
            have ek2 : vlP τ nt (mnM τ nt q) (n + 1) = vlP τ nt (mnM τ nt q) n := if_neg (fun z => z.1 (Or.inr c_35_6))
            refine g_iincN 5 n 1 [(5, .int (nI (n + 1))), (0, .ref (h 0)), (1, .int (nI (q))), (2, .int (mnM τ nt q)), (3, .int ((vlP τ nt (mnM τ nt q) n).1)), (4, .int ((vlP τ nt (mnM τ nt q) n).2))] C dX1_value_61 rfl (by decide) (by decide) rfl ?_
            refine g_goto 14 C dX1_value_64 (by decide) ?_
            refine g_lv [1, 2, 3, 4, 5, 0] [(0, .ref (h 0)), (1, .int (nI (q))), (2, .int (mnM τ nt q)), (3, .int ((vlP τ nt (mnM τ nt q) n).1)), (4, .int ((vlP τ nt (mnM τ nt q) n).2)), (5, .int (nI (n + 1)))] rfl ?_
            have hx := ih_14 (n + 1) (by omega) (by omega)
            rw [ek1, ek2] at hx
            exact hx
          ·
            have c2 := c_35_6
            have ek1 : vsF τ nt (mnM τ nt q) (mnF τ nt (τ.2 15) q) (n + 1) = mnF τ nt (vsF τ nt (mnM τ nt q) (mnF τ nt (τ.2 15) q) n) n := if_neg (fun z => z.elim c1 c2)
            refine g_aload_n 0 C rfl dX1_value_38 rfl ?_
            refine g_iload 5 C rfl dX1_value_39 ?_
            refine g_callV0 (C0 := RX1) (T := TX1) (N := 22) (ci := 1) (na := 1) (As := [.int (nI (n))]) (c_m_main l D cI cJ h (sA τ 15 (vsF τ nt (mnM τ nt q) (mnF τ nt (τ.2 15) q) n)) np nt no ni hI0 n (by omega)) C gX1_value_X1_main rfl (by decide +kernel) rfl ⟨Nat.le_of_ble_eq_true rfl, Nat.le_of_ble_eq_true rfl⟩ rfl rfl rfl (Nat.le_of_ble_eq_true rfl) ⟨Nat.zero_le _, Nat.zero_le _⟩ rfl dX1_value_41 ?_
            refine g_w (wM cI h (sA τ 15 (mnF τ nt (vsF τ nt (mnM τ nt q) (mnF τ nt (τ.2 15) q) n) n))) rfl ?_
            refine g_is ((mnM τ nt n)) rfl ?_
            refine g_iload_n 2 C rfl dX1_value_44 rfl ?_
            refine g_icmp_ne 61 C dX1_value_45 (by decide) (fun c_45_7 => ?_) (fun c_45_7 => ?_)
            ·
              have ek2 : vlP τ nt (mnM τ nt q) (n + 1) = vlP τ nt (mnM τ nt q) n := if_neg (fun z => c_45_7 z.2)
              refine g_iincN 5 n 1 [(5, .int (nI (n + 1))), (0, .ref (h 0)), (1, .int (nI (q))), (2, .int (mnM τ nt q)), (3, .int ((vlP τ nt (mnM τ nt q) n).1)), (4, .int ((vlP τ nt (mnM τ nt q) n).2))] C dX1_value_61 rfl (by decide) (by decide) rfl ?_
              refine g_goto 14 C dX1_value_64 (by decide) ?_
              refine g_lv [1, 2, 3, 4, 5, 0] [(0, .ref (h 0)), (1, .int (nI (q))), (2, .int (mnM τ nt q)), (3, .int ((vlP τ nt (mnM τ nt q) n).1)), (4, .int ((vlP τ nt (mnM τ nt q) n).2)), (5, .int (nI (n + 1)))] rfl ?_
              have hx := ih_14 (n + 1) (by omega) (by omega)
              rw [ek1, ek2] at hx
              exact hx
            ·
              have ek2 : vlP τ nt (mnM τ nt q) (n + 1) = ((vlP τ nt (mnM τ nt q) n).1 + τ.2 8 n, (vlP τ nt (mnM τ nt q) n).2 + 1) := if_pos ⟨fun z => z.elim c1 c2, c_45_7⟩
              refine g_iload_n 3 C rfl dX1_value_48 rfl ?_
              refine g_aload_n 0 C rfl dX1_value_49 rfl ?_
              refine g_get (C0 := RX1) (T := TX1) (N := 22) 0 1 13 (.ref (h 9)) C hin rfl rfl (by decide) (by decide +kernel) rfl dX1_value_50 ?_
              refine g_iload 5 C rfl dX1_value_53 ?_
              refine g_ialdN (cA := cI) (n := 8) (a := h 9) (f := τ.2 8) n 9 0 C rfl rfl (by omega) (by decide) dX1_value_55 ?_
              refine g_iadd C dX1_value_56 ?_
              refine g_istore_n [(3, .int (((vlP τ nt (mnM τ nt q) n).1) + (τ.2 8 n))), (0, .ref (h 0)), (1, .int (nI (q))), (2, .int (mnM τ nt q)), (4, .int ((vlP τ nt (mnM τ nt q) n).2)), (5, .int (nI (n)))] C dX1_value_57 rfl (by decide) rfl ?_
              refine g_iinc 4 (((vlP τ nt (mnM τ nt q) n).2) + 1) [(4, .int (((vlP τ nt (mnM τ nt q) n).2) + 1)), (3, .int (((vlP τ nt (mnM τ nt q) n).1) + (τ.2 8 n))), (0, .ref (h 0)), (1, .int (nI (q))), (2, .int (mnM τ nt q)), (5, .int (nI (n)))] C dX1_value_58 rfl rfl (by decide) rfl ?_
              refine g_iincN 5 n 1 [(5, .int (nI (n + 1))), (4, .int (((vlP τ nt (mnM τ nt q) n).2) + 1)), (3, .int (((vlP τ nt (mnM τ nt q) n).1) + (τ.2 8 n))), (0, .ref (h 0)), (1, .int (nI (q))), (2, .int (mnM τ nt q))] C dX1_value_61 rfl (by decide) (by decide) rfl ?_
              refine g_goto 14 C dX1_value_64 (by decide) ?_
              refine g_lv [3, 4, 5, 2, 1, 0] [(0, .ref (h 0)), (1, .int (nI (q))), (2, .int (mnM τ nt q)), (3, .int (((vlP τ nt (mnM τ nt q) n).1) + (τ.2 8 n))), (4, .int (((vlP τ nt (mnM τ nt q) n).2) + 1)), (5, .int (nI (n + 1)))] rfl ?_
              have hx := ih_14 (n + 1) (by omega) (by omega)
              rw [ek1, ek2] at hx
              exact hx
  refine g_lv [4, 5, 3, 2, 1, 0] [(0, .ref (h 0)), (1, .int (nI (q))), (2, .int (mnM τ nt q)), (3, .int (0)), (4, .int (0)), (5, .int (0))] rfl ?_
  exact loop_14 (ni + 1) 0 (by omega) (by omega)
set_option maxRecDepth 100000 in
set_option maxHeartbeats 4000000 in
theorem c_m_far (l : Launch) (D : va_G) (cI cJ : ClassId) (h : Nat → Nat) (τ : gS) (np nt no ni : Nat) (hI : iM0 τ np nt no ni) (a b : Nat) (q : Int32) (ch : Nat) (x : Int32) (ha : a < 12) (hb : b < 12) (hc : ch < 3) : MC l yX1_far wsX1_far 0 0 D (tyIJ cI cJ) [.ref (h 0), .int (nI (a)), .int (nI (b)), .int (q), .int (nI (ch)), .int (x)] (wM cI h τ) (wM cI h τ) none (some (.int (farM τ a b q ch x))) 0 := by
  have hI0 := hI
  obtain ⟨⟨hnp, hnp6⟩, ⟨hnt, hnt12⟩, ⟨hno, hno10⟩, ⟨hni, hni8⟩, hPT, hLC, hHS⟩ := hI
  refine MC.ofG (cc := cX1_far) (maxL := 7) (ret := (some .int)) [(0, .ref (h 0)), (1, .int (nI (a))), (2, .int (nI (b))), (3, .int (q)), (4, .int (nI (ch))), (5, .int (x))] (by decide) rfl (Nat.le_of_ble_eq_true rfl) rfl ?_
  intro p e s m args below meth c C hr hout
  have hin : ∀ w ∈ wsX10, w ∈ wsX1_far := fun w h => by first | exact List.mem_cons_of_mem _ (List.mem_append_right _ h) | exact List.mem_cons_of_mem _ (List.mem_append_left _ (List.mem_append_right _ h)) | exact List.mem_cons_of_mem _ (List.mem_append_left _ (List.mem_append_left _ (List.mem_append_right _ h))) | exact List.mem_cons_of_mem _ (List.mem_append_left _ (List.mem_append_left _ (List.mem_append_left _ (List.mem_append_right _ h)))) | exact List.mem_cons_of_mem _ (List.mem_append_left _ (List.mem_append_left _ (List.mem_append_left _ (List.mem_append_left _ (List.mem_append_right _ h)))))
  refine g_iload_n 3 C rfl dX1_far_0 rfl ?_
  refine g_aload_n 0 C rfl dX1_far_1 rfl ?_
  refine g_get (C0 := RX1) (T := TX1) (N := 22) 0 1 2 (.ref (h 1)) C hin rfl rfl (by decide) (by decide +kernel) rfl dX1_far_2 ?_
  refine g_iconst 3 C dX1_far_5 (by decide) ?_
  refine g_aload_n 0 C rfl dX1_far_6 rfl ?_
  refine g_get (C0 := RX1) (T := TX1) (N := 22) 0 1 4 (.ref (h 2)) C hin rfl rfl (by decide) (by decide +kernel) rfl dX1_far_7 ?_
  refine g_iload_n 1 C rfl dX1_far_10 rfl ?_
  refine g_ialdN (cA := cI) (n := 12) (a := h 2) (f := τ.2 1) a 2 0 C rfl rfl (by omega) (by decide) dX1_far_11 ?_
  obtain ⟨jA, hjA, ejA⟩ := hPT a
  refine g_is (nI (jA)) ejA ?_
  refine g_imulN 3 jA C dX1_far_12 ?_
  refine g_iload 4 C rfl dX1_far_13 ?_
  refine g_iaddN (3 * jA) ch C dX1_far_15 ?_
  refine g_ialdN (cA := cI) (n := 18) (a := h 1) (f := τ.2 0) ((3 * jA) + ch) 1 0 C rfl rfl (by omega) (by decide) dX1_far_16 ?_
  refine g_is ((colM τ a ch)) (by rw [colM, ejA, cl_nI (by omega)]) ?_
  refine g_imul C dX1_far_17 ?_
  refine g_iconst 4 C dX1_far_18 (by decide) ?_
  refine g_iload_n 3 C rfl dX1_far_19 rfl ?_
  refine g_isub C dX1_far_20 ?_
  refine g_aload_n 0 C rfl dX1_far_21 rfl ?_
  refine g_get (C0 := RX1) (T := TX1) (N := 22) 0 1 2 (.ref (h 1)) C hin rfl rfl (by decide) (by decide +kernel) rfl dX1_far_22 ?_
  refine g_iconst 3 C dX1_far_25 (by decide) ?_
  refine g_aload_n 0 C rfl dX1_far_26 rfl ?_
  refine g_get (C0 := RX1) (T := TX1) (N := 22) 0 1 4 (.ref (h 2)) C hin rfl rfl (by decide) (by decide +kernel) rfl dX1_far_27 ?_
  refine g_iload_n 2 C rfl dX1_far_30 rfl ?_
  refine g_ialdN (cA := cI) (n := 12) (a := h 2) (f := τ.2 1) b 2 0 C rfl rfl (by omega) (by decide) dX1_far_31 ?_
  obtain ⟨jB, hjB, ejB⟩ := hPT b
  refine g_is (nI (jB)) ejB ?_
  refine g_imulN 3 jB C dX1_far_32 ?_
  refine g_iload 4 C rfl dX1_far_33 ?_
  refine g_iaddN (3 * jB) ch C dX1_far_35 ?_
  refine g_ialdN (cA := cI) (n := 18) (a := h 1) (f := τ.2 0) ((3 * jB) + ch) 1 0 C rfl rfl (by omega) (by decide) dX1_far_36 ?_
  refine g_is ((colM τ b ch)) (by rw [colM, ejB, cl_nI (by omega)]) ?_
  refine g_imul C dX1_far_37 ?_
  refine g_iadd C dX1_far_38 ?_
  refine g_iconst 4 C dX1_far_39 (by decide) ?_
  refine g_idiv C (by decide) dX1_far_40 ?_
  refine g_iload 5 C rfl dX1_far_41 ?_
  refine g_isub C dX1_far_43 ?_
  refine g_istore [(6, .int ((((q * (colM τ a ch)) + ((4 - q) * (colM τ b ch))) / 4) - x)), (0, .ref (h 0)), (1, .int (nI (a))), (2, .int (nI (b))), (3, .int (q)), (4, .int (nI (ch))), (5, .int (x))] C dX1_far_44 (by decide) rfl ?_
  refine g_iload 0 C rfl dX1_far_46 ?_
  refine g_iload 0 C rfl dX1_far_48 ?_
  refine g_imul C dX1_far_50 ?_
  exact g_iret C hr rfl dX1_far_51 (Nat.zero_le _) (Nat.zero_le _) rfl rfl rfl
set_option maxRecDepth 100000 in
set_option maxHeartbeats 4000000 in
theorem c_m_passOne (l : Launch) (D : va_G) (cI cJ : ClassId) (h : Nat → Nat) (τ : gS) (np nt no ni : Nat) (hI : iM0 τ np nt no ni)  : MC l yX1_passOne wsX1_passOne 1 22 D (tyIJ cI cJ) [.ref (h 0)] (wM cI h τ) (wM cI h (p1s (sS τ 5 (τ.1 5 + 1)) ni)) none none 0 := by
  have hI0 := hI
  obtain ⟨⟨hnp, hnp6⟩, ⟨hnt, hnt12⟩, ⟨hno, hno10⟩, ⟨hni, hni8⟩, hPT, hLC, hHS⟩ := hI
  refine MC.ofG (cc := cX1_passOne) (maxL := 3) (ret := none) [(0, .ref (h 0))] (by decide) rfl (Nat.le_of_ble_eq_true rfl) rfl ?_
  intro p e s m args below meth c C hr hout
  have hin : ∀ w ∈ wsX10, w ∈ wsX1_passOne := fun w h => by first | exact List.mem_cons_of_mem _ (List.mem_append_right _ h) | exact List.mem_cons_of_mem _ (List.mem_append_left _ (List.mem_append_right _ h)) | exact List.mem_cons_of_mem _ (List.mem_append_left _ (List.mem_append_left _ (List.mem_append_right _ h))) | exact List.mem_cons_of_mem _ (List.mem_append_left _ (List.mem_append_left _ (List.mem_append_left _ (List.mem_append_right _ h)))) | exact List.mem_cons_of_mem _ (List.mem_append_left _ (List.mem_append_left _ (List.mem_append_left _ (List.mem_append_left _ (List.mem_append_right _ h)))))
  refine g_aload_n 0 C rfl dX1_passOne_0 rfl ?_
  refine g_dup C dX1_passOne_1 rfl ?_
  refine g_get (C0 := RX1) (T := TX1) (N := 22) 0 1 19 (.int (τ.1 5)) C hin rfl rfl (by decide) (by decide +kernel) rfl dX1_passOne_2 ?_
  refine g_iconst 1 C dX1_passOne_5 (by decide) ?_
  refine g_iadd C dX1_passOne_6 ?_
  refine g_put (C0 := RX1) (T := TX1) (N := 22) 0 1 19 (wM cI h (sS τ 5 (((τ.1 5) + 1)))) C hin tyX1_ok nmX1 rfl rfl (by decide) (by decide +kernel) rfl (by decide +kernel) (Nat.le_of_ble_eq_true rfl) rfl dX1_passOne_7 ?_
  refine g_iconst 0 C dX1_passOne_10 (by decide) ?_
  refine g_istore_n [(1, .int (0)), (0, .ref (h 0))] C dX1_passOne_11 rfl (by decide) rfl ?_
  have loop_12 : ∀ (fu : Nat) (i : Nat), i ≤ ni → ni + 1 ≤ i + fu → G p l e ({ frames := 1, cells := 0, slots := 6 * 0, locals := 22 } : Room) s m args below meth c D (va_A (wM cI h τ) s.heap.size) 3 0 0 (gQ below D (wM cI h τ) (wM cI h (p1s (sS τ 5 (τ.1 5 + 1)) ni)) none none 0 args s) (wM cI h (p1s (sS τ 5 (τ.1 5 + 1)) i)) [(0, .ref (h 0)), (1, .int (nI (i)))] 12 [] := by
    intro fu
    induction fu with
    | zero => intro i hi hf; exact absurd True.intro (by omega)
    | succ fu ih_12 =>
      intro i hi hf
      have hIi := iM0_p1s (iM0_S5 hI0 (τ.1 5 + 1)) i
      refine g_iload_n 1 C rfl dX1_passOne_12 rfl ?_
      refine g_aload_n 0 C rfl dX1_passOne_13 rfl ?_
      refine g_get (C0 := RX1) (T := TX1) (N := 22) 0 1 9 (.int ((p1s (sS τ 5 (τ.1 5 + 1)) i).1 4)) C hin rfl rfl (by decide) (by decide +kernel) rfl dX1_passOne_14 ?_
      refine g_is (nI ni) hIi.2.2.2.1.1 ?_
      refine g_icmp_ge 113 C dX1_passOne_17 (by decide) (fun c_17_1 => ?_) (fun c_17_1 => ?_)
      ·
        have d_17_1 : ni ≤ i := (nI_leI (a := ni) (b := i) (by omega) (by omega)).mp c_17_1
        exact g_vret C hr dX1_passOne_113 (Nat.zero_le _) (Nat.zero_le _) rfl rfl (by rw [show i = ni by omega])
      ·
        have d_17_1 : ¬ ni ≤ i := fun zz => c_17_1 ((nI_leI (a := ni) (b := i) (by omega) (by omega)).mpr zz)
        refine g_aload_n 0 C rfl dX1_passOne_20 rfl ?_
        refine g_get (C0 := RX1) (T := TX1) (N := 22) 0 1 14 (.ref (h 10)) C hin rfl rfl (by decide) (by decide +kernel) rfl dX1_passOne_21 ?_
        refine g_iload_n 1 C rfl dX1_passOne_24 rfl ?_
        refine g_ialdN (cA := cI) (n := 8) (a := h 10) (f := (p1s (sS τ 5 (τ.1 5 + 1)) i).2 9) i 10 0 C rfl rfl (by omega) (by decide) dX1_passOne_25 ?_
        refine g_istore_n [(2, .int (((p1s (sS τ 5 (τ.1 5 + 1)) i).2 9) i)), (0, .ref (h 0)), (1, .int (nI (i)))] C dX1_passOne_26 rfl (by decide) rfl ?_
        refine g_iload_n 0 C rfl dX1_passOne_27 rfl ?_
        refine g_iconst (-1) C dX1_passOne_28 (by decide) ?_
        refine g_icmp_eq 107 C dX1_passOne_29 (by decide) (fun c_29_2 => ?_) (fun c_29_2 => ?_)
        ·
          have ek : p1s (sS τ 5 (τ.1 5 + 1)) (i + 1) = (p1s (sS τ 5 (τ.1 5 + 1)) i) := if_pos c_29_2
          refine g_iincN 2 i 1 [(1, .int (nI (i + 1))), (2, .int (((p1s (sS τ 5 (τ.1 5 + 1)) i).2 9) i)), (0, .ref (h 0))] C dX1_passOne_107 rfl (by decide) (by decide) rfl ?_
          refine g_goto 12 C dX1_passOne_110 (by decide) ?_
          refine g_lv [2, 0] [(0, .ref (h 0)), (1, .int (nI (i + 1)))] rfl ?_
          have hx := ih_12 (i + 1) (by omega) (by omega)
          rw [ek] at hx
          exact hx
        ·
          have ek : p1s (sS τ 5 (τ.1 5 + 1)) (i + 1) = p1 (p1s (sS τ 5 (τ.1 5 + 1)) i) i := rfl
          obtain ⟨jH, hjH, ejH⟩ := (hIi.2.2.2.2.2.2 i).resolve_left c_29_2
          rw [ejH]
          refine g_aload_n 1 C rfl dX1_passOne_32 rfl ?_
          refine g_get (C0 := RX1) (T := TX1) (N := 22) 0 1 18 (.ref (h 14)) C hin rfl rfl (by decide) (by decide +kernel) rfl dX1_passOne_33 ?_
          refine g_iload_n 0 C rfl dX1_passOne_36 rfl ?_
          refine g_dup2 C dX1_passOne_37 rfl rfl ?_
          refine g_ialdN (cA := cI) (n := 4) (a := h 14) (f := (p1s (sS τ 5 (τ.1 5 + 1)) i).2 13) jH 14 0 C rfl rfl (by omega) (by decide) dX1_passOne_38 ?_
          refine g_aload_n 1 C rfl dX1_passOne_39 rfl ?_
          refine g_get (C0 := RX1) (T := TX1) (N := 22) 0 1 16 (.ref (h 12)) C hin rfl rfl (by decide) (by decide +kernel) rfl dX1_passOne_40 ?_
          refine g_iload_n 2 C rfl dX1_passOne_43 rfl ?_
          refine g_ialdN (cA := cI) (n := 8) (a := h 12) (f := (p1s (sS τ 5 (τ.1 5 + 1)) i).2 11) i 12 0 C rfl rfl (by omega) (by decide) dX1_passOne_44 ?_
          refine g_iadd C dX1_passOne_45 ?_
          refine g_iastN (cA := cI) (n := 4) (a := h 14) (f := (p1s (sS τ 5 (τ.1 5 + 1)) i).2 13) (x := ((((p1s (sS τ 5 (τ.1 5 + 1)) i).2 13) jH) + (((p1s (sS τ 5 (τ.1 5 + 1)) i).2 11) i))) jH 14 0 (wM cI h (sA (p1s (sS τ 5 (τ.1 5 + 1)) i) 13 (upd ((p1s (sS τ 5 (τ.1 5 + 1)) i).2 13) jH (((((p1s (sS τ 5 (τ.1 5 + 1)) i).2 13) jH) + (((p1s (sS τ 5 (τ.1 5 + 1)) i).2 11) i)))))) C rfl rfl (by omega) (by decide) rfl dX1_passOne_46 ?_
          refine g_aload_n 1 C rfl dX1_passOne_47 rfl ?_
          refine g_get (C0 := RX1) (T := TX1) (N := 22) 0 1 12 (.ref (h 8)) C hin rfl rfl (by decide) (by decide +kernel) rfl dX1_passOne_48 ?_
          refine g_iload_n 2 C rfl dX1_passOne_51 rfl ?_
          refine g_dup2 C dX1_passOne_52 rfl rfl ?_
          refine g_ialdN (cA := cI) (n := 8) (a := h 8) (f := (p1s (sS τ 5 (τ.1 5 + 1)) i).2 7) i 8 0 C rfl rfl (by omega) (by decide) dX1_passOne_53 ?_
          refine g_aload_n 1 C rfl dX1_passOne_54 rfl ?_
          refine g_get (C0 := RX1) (T := TX1) (N := 22) 0 1 17 (.ref (h 13)) C hin rfl rfl (by decide) (by decide +kernel) rfl dX1_passOne_55 ?_
          refine g_iload_n 0 C rfl dX1_passOne_58 rfl ?_
          refine g_ialdN (cA := cI) (n := 4) (a := h 13) (f := (p1s (sS τ 5 (τ.1 5 + 1)) i).2 12) jH 13 0 C rfl rfl (by omega) (by decide) dX1_passOne_59 ?_
          refine g_bipush 40 C dX1_passOne_60 (by decide) ?_
          refine g_bipush 60 C dX1_passOne_62 (by decide) ?_
          refine g_callS0 (na := 3) (av := [.int (((p1s (sS τ 5 (τ.1 5 + 1)) i).2 12) jH), .int (40), .int (60)]) (c_m_in l D cI cJ _ ((((p1s (sS τ 5 (τ.1 5 + 1)) i).2 12) jH)) (40) (60)) C gX1_passOne_X1_in rfl (by decide +kernel) rfl ⟨Nat.le_of_ble_eq_true rfl, Nat.le_of_ble_eq_true rfl⟩ rfl (Nat.le_of_ble_eq_true rfl) ⟨Nat.zero_le _, Nat.zero_le _⟩ rfl dX1_passOne_64 ?_
          refine g_if_eq 74 C dX1_passOne_67 (by decide) (fun c_67_3 => ?_) (fun c_67_3 => ?_)
          ·
            have b_67_3 : ¬ (¬ out ((((p1s (sS τ 5 (τ.1 5 + 1)) i).2 12) jH)) (40) (60)) := bI_eq c_67_3
            refine g_iconst 1 C dX1_passOne_74 (by decide) ?_
            refine g_iadd C dX1_passOne_75 ?_
            refine g_iastN (cA := cI) (n := 8) (a := h 8) (f := (p1s (sS τ 5 (τ.1 5 + 1)) i).2 7) (x := ((((p1s (sS τ 5 (τ.1 5 + 1)) i).2 7) i) + 1)) i 8 0 (wM cI h (sA (sA (p1s (sS τ 5 (τ.1 5 + 1)) i) 13 (upd ((p1s (sS τ 5 (τ.1 5 + 1)) i).2 13) jH (((((p1s (sS τ 5 (τ.1 5 + 1)) i).2 13) jH) + (((p1s (sS τ 5 (τ.1 5 + 1)) i).2 11) i))))) 7 (upd ((p1s (sS τ 5 (τ.1 5 + 1)) i).2 7) i (((((p1s (sS τ 5 (τ.1 5 + 1)) i).2 7) i) + 1))))) C rfl rfl (by omega) (by decide) rfl dX1_passOne_76 ?_
            refine g_aload_n 1 C rfl dX1_passOne_77 rfl ?_
            refine g_get (C0 := RX1) (T := TX1) (N := 22) 0 1 15 (.ref (h 11)) C hin rfl rfl (by decide) (by decide +kernel) rfl dX1_passOne_78 ?_
            refine g_iload_n 2 C rfl dX1_passOne_81 rfl ?_
            refine g_dup2 C dX1_passOne_82 rfl rfl ?_
            refine g_ialdN (cA := cI) (n := 8) (a := h 11) (f := (p1s (sS τ 5 (τ.1 5 + 1)) i).2 10) i 11 0 C rfl rfl (by omega) (by decide) dX1_passOne_83 ?_
            refine g_iconst 1 C dX1_passOne_84 (by decide) ?_
            refine g_isub C dX1_passOne_85 ?_
            refine g_iastN (cA := cI) (n := 8) (a := h 11) (f := (p1s (sS τ 5 (τ.1 5 + 1)) i).2 10) (x := ((((p1s (sS τ 5 (τ.1 5 + 1)) i).2 10) i) - 1)) i 11 0 (wM cI h (sA (sA (sA (p1s (sS τ 5 (τ.1 5 + 1)) i) 13 (upd ((p1s (sS τ 5 (τ.1 5 + 1)) i).2 13) jH (((((p1s (sS τ 5 (τ.1 5 + 1)) i).2 13) jH) + (((p1s (sS τ 5 (τ.1 5 + 1)) i).2 11) i))))) 7 (upd ((p1s (sS τ 5 (τ.1 5 + 1)) i).2 7) i (((((p1s (sS τ 5 (τ.1 5 + 1)) i).2 7) i) + 1)))) 10 (upd ((p1s (sS τ 5 (τ.1 5 + 1)) i).2 10) i (((((p1s (sS τ 5 (τ.1 5 + 1)) i).2 10) i) - 1))))) C rfl rfl (by omega) (by decide) rfl dX1_passOne_86 ?_
            refine g_aload_n 1 C rfl dX1_passOne_87 rfl ?_
            refine g_get (C0 := RX1) (T := TX1) (N := 22) 0 1 14 (.ref (h 10)) C hin rfl rfl (by decide) (by decide +kernel) rfl dX1_passOne_88 ?_
            refine g_iload_n 2 C rfl dX1_passOne_91 rfl ?_
            refine g_aload_n 1 C rfl dX1_passOne_92 rfl ?_
            refine g_get (C0 := RX1) (T := TX1) (N := 22) 0 1 15 (.ref (h 11)) C hin rfl rfl (by decide) (by decide +kernel) rfl dX1_passOne_93 ?_
            refine g_iload_n 2 C rfl dX1_passOne_96 rfl ?_
            refine g_ialdN (cA := cI) (n := 8) (a := h 11) (f := upd ((p1s (sS τ 5 (τ.1 5 + 1)) i).2 10) i (((((p1s (sS τ 5 (τ.1 5 + 1)) i).2 10) i) - 1))) i 11 0 C rfl rfl (by omega) (by decide) dX1_passOne_97 ?_
            refine g_is (((((p1s (sS τ 5 (τ.1 5 + 1)) i).2 10) i) - 1)) pk_us ?_
            refine g_if_ne 105 C dX1_passOne_98 (by decide) (fun c_98_4 => ?_) (fun c_98_4 => ?_)
            ·
              refine g_iload_n 0 C rfl dX1_passOne_105 rfl ?_
              refine g_iastN (cA := cI) (n := 8) (a := h 10) (f := (p1s (sS τ 5 (τ.1 5 + 1)) i).2 9) (x := nI (jH)) i 10 0 (wM cI h (sA (sA (sA (sA (p1s (sS τ 5 (τ.1 5 + 1)) i) 13 (upd ((p1s (sS τ 5 (τ.1 5 + 1)) i).2 13) jH (((((p1s (sS τ 5 (τ.1 5 + 1)) i).2 13) jH) + (((p1s (sS τ 5 (τ.1 5 + 1)) i).2 11) i))))) 7 (upd ((p1s (sS τ 5 (τ.1 5 + 1)) i).2 7) i (((((p1s (sS τ 5 (τ.1 5 + 1)) i).2 7) i) + 1)))) 10 (upd ((p1s (sS τ 5 (τ.1 5 + 1)) i).2 10) i (((((p1s (sS τ 5 (τ.1 5 + 1)) i).2 10) i) - 1)))) 9 (upd ((p1s (sS τ 5 (τ.1 5 + 1)) i).2 9) i (nI (jH))))) C rfl rfl (by omega) (by decide) rfl dX1_passOne_106 ?_
              refine g_w (wM cI h (p1 (p1s (sS τ 5 (τ.1 5 + 1)) i) i)) (by rw [p1, if_neg c_29_2, ejH, cl_nI (by omega), if_neg b_67_3, if_pos c_98_4]) ?_
              refine g_iincN 2 i 1 [(1, .int (nI (i + 1))), (2, .int (nI (jH))), (0, .ref (h 0))] C dX1_passOne_107 rfl (by decide) (by decide) rfl ?_
              refine g_goto 12 C dX1_passOne_110 (by decide) ?_
              refine g_lv [2, 0] [(0, .ref (h 0)), (1, .int (nI (i + 1)))] rfl ?_
              have hx := ih_12 (i + 1) (by omega) (by omega)
              rw [ek] at hx
              exact hx
            ·
              refine g_iconst (-1) C dX1_passOne_101 (by decide) ?_
              refine g_goto 106 C dX1_passOne_102 (by decide) ?_
              refine g_iastN (cA := cI) (n := 8) (a := h 10) (f := (p1s (sS τ 5 (τ.1 5 + 1)) i).2 9) (x := ((-1))) i 10 0 (wM cI h (sA (sA (sA (sA (p1s (sS τ 5 (τ.1 5 + 1)) i) 13 (upd ((p1s (sS τ 5 (τ.1 5 + 1)) i).2 13) jH (((((p1s (sS τ 5 (τ.1 5 + 1)) i).2 13) jH) + (((p1s (sS τ 5 (τ.1 5 + 1)) i).2 11) i))))) 7 (upd ((p1s (sS τ 5 (τ.1 5 + 1)) i).2 7) i (((((p1s (sS τ 5 (τ.1 5 + 1)) i).2 7) i) + 1)))) 10 (upd ((p1s (sS τ 5 (τ.1 5 + 1)) i).2 10) i (((((p1s (sS τ 5 (τ.1 5 + 1)) i).2 10) i) - 1)))) 9 (upd ((p1s (sS τ 5 (τ.1 5 + 1)) i).2 9) i (((-1)))))) C rfl rfl (by omega) (by decide) rfl dX1_passOne_106 ?_
              refine g_w (wM cI h (p1 (p1s (sS τ 5 (τ.1 5 + 1)) i) i)) (by rw [p1, if_neg c_29_2, ejH, cl_nI (by omega), if_neg b_67_3, if_neg (fun z => z c_98_4)]) ?_
              refine g_iincN 2 i 1 [(1, .int (nI (i + 1))), (2, .int (nI (jH))), (0, .ref (h 0))] C dX1_passOne_107 rfl (by decide) (by decide) rfl ?_
              refine g_goto 12 C dX1_passOne_110 (by decide) ?_
              refine g_lv [2, 0] [(0, .ref (h 0)), (1, .int (nI (i + 1)))] rfl ?_
              have hx := ih_12 (i + 1) (by omega) (by omega)
              rw [ek] at hx
              exact hx
          ·
            have b_67_3 : ¬ out ((((p1s (sS τ 5 (τ.1 5 + 1)) i).2 12) jH)) (40) (60) := bI_ne c_67_3
            refine g_iconst 0 C dX1_passOne_70 (by decide) ?_
            refine g_goto 75 C dX1_passOne_71 (by decide) ?_
            refine g_iadd C dX1_passOne_75 ?_
            refine g_iastN (cA := cI) (n := 8) (a := h 8) (f := (p1s (sS τ 5 (τ.1 5 + 1)) i).2 7) (x := ((((p1s (sS τ 5 (τ.1 5 + 1)) i).2 7) i) + 0)) i 8 0 (wM cI h (sA (sA (p1s (sS τ 5 (τ.1 5 + 1)) i) 13 (upd ((p1s (sS τ 5 (τ.1 5 + 1)) i).2 13) jH (((((p1s (sS τ 5 (τ.1 5 + 1)) i).2 13) jH) + (((p1s (sS τ 5 (τ.1 5 + 1)) i).2 11) i))))) 7 (upd ((p1s (sS τ 5 (τ.1 5 + 1)) i).2 7) i (((((p1s (sS τ 5 (τ.1 5 + 1)) i).2 7) i) + 0))))) C rfl rfl (by omega) (by decide) rfl dX1_passOne_76 ?_
            refine g_aload_n 1 C rfl dX1_passOne_77 rfl ?_
            refine g_get (C0 := RX1) (T := TX1) (N := 22) 0 1 15 (.ref (h 11)) C hin rfl rfl (by decide) (by decide +kernel) rfl dX1_passOne_78 ?_
            refine g_iload_n 2 C rfl dX1_passOne_81 rfl ?_
            refine g_dup2 C dX1_passOne_82 rfl rfl ?_
            refine g_ialdN (cA := cI) (n := 8) (a := h 11) (f := (p1s (sS τ 5 (τ.1 5 + 1)) i).2 10) i 11 0 C rfl rfl (by omega) (by decide) dX1_passOne_83 ?_
            refine g_iconst 1 C dX1_passOne_84 (by decide) ?_
            refine g_isub C dX1_passOne_85 ?_
            refine g_iastN (cA := cI) (n := 8) (a := h 11) (f := (p1s (sS τ 5 (τ.1 5 + 1)) i).2 10) (x := ((((p1s (sS τ 5 (τ.1 5 + 1)) i).2 10) i) - 1)) i 11 0 (wM cI h (sA (sA (sA (p1s (sS τ 5 (τ.1 5 + 1)) i) 13 (upd ((p1s (sS τ 5 (τ.1 5 + 1)) i).2 13) jH (((((p1s (sS τ 5 (τ.1 5 + 1)) i).2 13) jH) + (((p1s (sS τ 5 (τ.1 5 + 1)) i).2 11) i))))) 7 (upd ((p1s (sS τ 5 (τ.1 5 + 1)) i).2 7) i (((((p1s (sS τ 5 (τ.1 5 + 1)) i).2 7) i) + 0)))) 10 (upd ((p1s (sS τ 5 (τ.1 5 + 1)) i).2 10) i (((((p1s (sS τ 5 (τ.1 5 + 1)) i).2 10) i) - 1))))) C rfl rfl (by omega) (by decide) rfl dX1_passOne_86 ?_
            refine g_aload_n 1 C rfl dX1_passOne_87 rfl ?_
            refine g_get (C0 := RX1) (T := TX1) (N := 22) 0 1 14 (.ref (h 10)) C hin rfl rfl (by decide) (by decide +kernel) rfl dX1_passOne_88 ?_
            refine g_iload_n 2 C rfl dX1_passOne_91 rfl ?_
            refine g_aload_n 1 C rfl dX1_passOne_92 rfl ?_
            refine g_get (C0 := RX1) (T := TX1) (N := 22) 0 1 15 (.ref (h 11)) C hin rfl rfl (by decide) (by decide +kernel) rfl dX1_passOne_93 ?_
            refine g_iload_n 2 C rfl dX1_passOne_96 rfl ?_
            refine g_ialdN (cA := cI) (n := 8) (a := h 11) (f := upd ((p1s (sS τ 5 (τ.1 5 + 1)) i).2 10) i (((((p1s (sS τ 5 (τ.1 5 + 1)) i).2 10) i) - 1))) i 11 0 C rfl rfl (by omega) (by decide) dX1_passOne_97 ?_
            refine g_is (((((p1s (sS τ 5 (τ.1 5 + 1)) i).2 10) i) - 1)) pk_us ?_
            refine g_if_ne 105 C dX1_passOne_98 (by decide) (fun c_98_5 => ?_) (fun c_98_5 => ?_)
            ·
              refine g_iload_n 0 C rfl dX1_passOne_105 rfl ?_
              refine g_iastN (cA := cI) (n := 8) (a := h 10) (f := (p1s (sS τ 5 (τ.1 5 + 1)) i).2 9) (x := nI (jH)) i 10 0 (wM cI h (sA (sA (sA (sA (p1s (sS τ 5 (τ.1 5 + 1)) i) 13 (upd ((p1s (sS τ 5 (τ.1 5 + 1)) i).2 13) jH (((((p1s (sS τ 5 (τ.1 5 + 1)) i).2 13) jH) + (((p1s (sS τ 5 (τ.1 5 + 1)) i).2 11) i))))) 7 (upd ((p1s (sS τ 5 (τ.1 5 + 1)) i).2 7) i (((((p1s (sS τ 5 (τ.1 5 + 1)) i).2 7) i) + 0)))) 10 (upd ((p1s (sS τ 5 (τ.1 5 + 1)) i).2 10) i (((((p1s (sS τ 5 (τ.1 5 + 1)) i).2 10) i) - 1)))) 9 (upd ((p1s (sS τ 5 (τ.1 5 + 1)) i).2 9) i (nI (jH))))) C rfl rfl (by omega) (by decide) rfl dX1_passOne_106 ?_
              refine g_w (wM cI h (p1 (p1s (sS τ 5 (τ.1 5 + 1)) i) i)) (by rw [p1, if_neg c_29_2, ejH, cl_nI (by omega), if_pos b_67_3, if_pos c_98_5]) ?_
              refine g_iincN 2 i 1 [(1, .int (nI (i + 1))), (2, .int (nI (jH))), (0, .ref (h 0))] C dX1_passOne_107 rfl (by decide) (by decide) rfl ?_
              refine g_goto 12 C dX1_passOne_110 (by decide) ?_
              refine g_lv [2, 0] [(0, .ref (h 0)), (1, .int (nI (i + 1)))] rfl ?_
              have hx := ih_12 (i + 1) (by omega) (by omega)
              rw [ek] at hx
              exact hx
            ·
              refine g_iconst (-1) C dX1_passOne_101 (by decide) ?_
              refine g_goto 106 C dX1_passOne_102 (by decide) ?_
              refine g_iastN (cA := cI) (n := 8) (a := h 10) (f := (p1s (sS τ 5 (τ.1 5 + 1)) i).2 9) (x := ((-1))) i 10 0 (wM cI h (sA (sA (sA (sA (p1s (sS τ 5 (τ.1 5 + 1)) i) 13 (upd ((p1s (sS τ 5 (τ.1 5 + 1)) i).2 13) jH (((((p1s (sS τ 5 (τ.1 5 + 1)) i).2 13) jH) + (((p1s (sS τ 5 (τ.1 5 + 1)) i).2 11) i))))) 7 (upd ((p1s (sS τ 5 (τ.1 5 + 1)) i).2 7) i (((((p1s (sS τ 5 (τ.1 5 + 1)) i).2 7) i) + 0)))) 10 (upd ((p1s (sS τ 5 (τ.1 5 + 1)) i).2 10) i (((((p1s (sS τ 5 (τ.1 5 + 1)) i).2 10) i) - 1)))) 9 (upd ((p1s (sS τ 5 (τ.1 5 + 1)) i).2 9) i (((-1)))))) C rfl rfl (by omega) (by decide) rfl dX1_passOne_106 ?_
              refine g_w (wM cI h (p1 (p1s (sS τ 5 (τ.1 5 + 1)) i) i)) (by rw [p1, if_neg c_29_2, ejH, cl_nI (by omega), if_pos b_67_3, if_neg (fun z => z c_98_5)]) ?_
              refine g_iincN 2 i 1 [(1, .int (nI (i + 1))), (2, .int (nI (jH))), (0, .ref (h 0))] C dX1_passOne_107 rfl (by decide) (by decide) rfl ?_
              refine g_goto 12 C dX1_passOne_110 (by decide) ?_
              refine g_lv [2, 0] [(0, .ref (h 0)), (1, .int (nI (i + 1)))] rfl ?_
              have hx := ih_12 (i + 1) (by omega) (by omega)
              rw [ek] at hx
              exact hx
  refine g_lv [1, 0] [(0, .ref (h 0)), (1, .int (0))] rfl ?_
  exact loop_12 (ni + 1) 0 (by omega) (by omega)
