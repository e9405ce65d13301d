/-! The constructors. -/
set_option maxRecDepth 100000 in
set_option maxHeartbeats 4000000 in
theorem c_init (l : Launch) (D : va_G) (cI cJ : ClassId) (h0 : Nat) : MI l yX0_init wsX0_init 2 40 D (tyIJ cI cJ) h0 [(h0, .inr (0, [.int 0, .int 0, .int 0, .int 0, .int 0, .null, .null, .null, .null, .null, .null, .null, .null, .null, .null, .null, .null]))] (fun h => (wA cI h (sA σz 10 (fillF (fun _ => 0) (fun _ => 50) 4)))) 12 1382 := by
  refine MI.ofG (cc := cX0_init) (maxL := 2) (ret := none) (by decide) rfl rfl (by decide) ?_
  intro p e s m args below meth c C hr hi
  have hin : ∀ w ∈ wsX00, w ∈ wsX0_init := fun w h => by first | exact List.mem_cons_of_mem _ (List.mem_append_right _ h) | exact List.mem_cons_of_mem _ (List.mem_append_left _ (List.mem_append_right _ h)) | exact List.mem_cons_of_mem _ (List.mem_append_left _ (List.mem_append_left _ (List.mem_append_right _ h))) | exact List.mem_cons_of_mem _ (List.mem_append_left _ (List.mem_append_left _ (List.mem_append_left _ (List.mem_append_right _ h)))) | exact List.mem_cons_of_mem _ (List.mem_append_left _ (List.mem_append_left _ (List.mem_append_left _ (List.mem_append_left _ (List.mem_append_right _ h)))))
  refine g_aload_n 0 C rfl dX0_init_0 rfl ?_
  refine g_objInit C (by decide +kernel) (by decide +kernel) (by decide +kernel) dX0_init_1 (by decide) (by decide) ?_
  refine g_aload_n 0 C rfl dX0_init_4 rfl ?_
  refine g_bipush 18 C dX0_init_5 (by decide) ?_
  refine g_newa (cI := cI) 18 C rfl (by decide +kernel) (by decide) (by decide) (by decide) (by decide) (by decide) dX0_init_7 (fun q1 => ?_)
  refine g_putF (C0 := RX0) (T := TX0) (N := 17) 0 0 5 [(h0, .inr (0, [.int 0, .int 0, .int 0, .int 0, .int 0, .ref q1, .null, .null, .null, .null, .null, .null, .null, .null, .null, .null, .null])), (q1, .inl (cI, 18, .inl (fun _ => 0)))] C hin tyX0_ok nmX0 rfl rfl (by decide) (by decide +kernel) rfl hi rfl (by decide +kernel) (Nat.le_of_ble_eq_true rfl) rfl dX0_init_9 ?_
  refine g_aload_n 0 C rfl dX0_init_12 rfl ?_
  refine g_bipush 12 C dX0_init_13 (by decide) ?_
  refine g_newa (cI := cI) 12 C rfl (by decide +kernel) (by decide) (by decide) (by decide) (by decide) (by decide) dX0_init_15 (fun q2 => ?_)
  refine g_putF (C0 := RX0) (T := TX0) (N := 17) 0 0 6 [(h0, .inr (0, [.int 0, .int 0, .int 0, .int 0, .int 0, .ref q1, .ref q2, .null, .null, .null, .null, .null, .null, .null, .null, .null, .null])), (q1, .inl (cI, 18, .inl (fun _ => 0))), (q2, .inl (cI, 12, .inl (fun _ => 0)))] C hin tyX0_ok nmX0 rfl rfl (by decide) (by decide +kernel) rfl hi rfl (by decide +kernel) (Nat.le_of_ble_eq_true rfl) rfl dX0_init_17 ?_
  refine g_aload_n 0 C rfl dX0_init_20 rfl ?_
  refine g_bipush 12 C dX0_init_21 (by decide) ?_
  refine g_newa (cI := cI) 12 C rfl (by decide +kernel) (by decide) (by decide) (by decide) (by decide) (by decide) dX0_init_23 (fun q3 => ?_)
  refine g_putF (C0 := RX0) (T := TX0) (N := 17) 0 0 7 [(h0, .inr (0, [.int 0, .int 0, .int 0, .int 0, .int 0, .ref q1, .ref q2, .ref q3, .null, .null, .null, .null, .null, .null, .null, .null, .null])), (q1, .inl (cI, 18, .inl (fun _ => 0))), (q2, .inl (cI, 12, .inl (fun _ => 0))), (q3, .inl (cI, 12, .inl (fun _ => 0)))] C hin tyX0_ok nmX0 rfl rfl (by decide) (by decide +kernel) rfl hi rfl (by decide +kernel) (Nat.le_of_ble_eq_true rfl) rfl dX0_init_25 ?_
  refine g_aload_n 0 C rfl dX0_init_28 rfl ?_
  refine g_sipush 1284 C dX0_init_29 (by decide) ?_
  refine g_newa (cI := cI) 1284 C rfl (by decide +kernel) (by decide) (by decide) (by decide) (by decide) (by decide) dX0_init_32 (fun q4 => ?_)
  refine g_putF (C0 := RX0) (T := TX0) (N := 17) 0 0 8 [(h0, .inr (0, [.int 0, .int 0, .int 0, .int 0, .int 0, .ref q1, .ref q2, .ref q3, .ref q4, .null, .null, .null, .null, .null, .null, .null, .null])), (q1, .inl (cI, 18, .inl (fun _ => 0))), (q2, .inl (cI, 12, .inl (fun _ => 0))), (q3, .inl (cI, 12, .inl (fun _ => 0))), (q4, .inl (cI, 1284, .inl (fun _ => 0)))] C hin tyX0_ok nmX0 rfl rfl (by decide) (by decide +kernel) rfl hi rfl (by decide +kernel) (Nat.le_of_ble_eq_true rfl) rfl dX0_init_34 ?_
  refine g_aload_n 0 C rfl dX0_init_37 rfl ?_
  refine g_bipush 8 C dX0_init_38 (by decide) ?_
  refine g_newa (cI := cI) 8 C rfl (by decide +kernel) (by decide) (by decide) (by decide) (by decide) (by decide) dX0_init_40 (fun q5 => ?_)
  refine g_putF (C0 := RX0) (T := TX0) (N := 17) 0 0 9 [(h0, .inr (0, [.int 0, .int 0, .int 0, .int 0, .int 0, .ref q1, .ref q2, .ref q3, .ref q4, .ref q5, .null, .null, .null, .null, .null, .null, .null])), (q1, .inl (cI, 18, .inl (fun _ => 0))), (q2, .inl (cI, 12, .inl (fun _ => 0))), (q3, .inl (cI, 12, .inl (fun _ => 0))), (q4, .inl (cI, 1284, .inl (fun _ => 0))), (q5, .inl (cI, 8, .inl (fun _ => 0)))] C hin tyX0_ok nmX0 rfl rfl (by decide) (by decide +kernel) rfl hi rfl (by decide +kernel) (Nat.le_of_ble_eq_true rfl) rfl dX0_init_42 ?_
  refine g_aload_n 0 C rfl dX0_init_45 rfl ?_
  refine g_bipush 8 C dX0_init_46 (by decide) ?_
  refine g_newa (cI := cI) 8 C rfl (by decide +kernel) (by decide) (by decide) (by decide) (by decide) (by decide) dX0_init_48 (fun q6 => ?_)
  refine g_putF (C0 := RX0) (T := TX0) (N := 17) 0 0 10 [(h0, .inr (0, [.int 0, .int 0, .int 0, .int 0, .int 0, .ref q1, .ref q2, .ref q3, .ref q4, .ref q5, .ref q6, .null, .null, .null, .null, .null, .null])), (q1, .inl (cI, 18, .inl (fun _ => 0))), (q2, .inl (cI, 12, .inl (fun _ => 0))), (q3, .inl (cI, 12, .inl (fun _ => 0))), (q4, .inl (cI, 1284, .inl (fun _ => 0))), (q5, .inl (cI, 8, .inl (fun _ => 0))), (q6, .inl (cI, 8, .inl (fun _ => 0)))] C hin tyX0_ok nmX0 rfl rfl (by decide) (by decide +kernel) rfl hi rfl (by decide +kernel) (Nat.le_of_ble_eq_true rfl) rfl dX0_init_50 ?_
  refine g_aload_n 0 C rfl dX0_init_53 rfl ?_
  refine g_bipush 8 C dX0_init_54 (by decide) ?_
  refine g_newa (cI := cI) 8 C rfl (by decide +kernel) (by decide) (by decide) (by decide) (by decide) (by decide) dX0_init_56 (fun q7 => ?_)
  refine g_putF (C0 := RX0) (T := TX0) (N := 17) 0 0 11 [(h0, .inr (0, [.int 0, .int 0, .int 0, .int 0, .int 0, .ref q1, .ref q2, .ref q3, .ref q4, .ref q5, .ref q6, .ref q7, .null, .null, .null, .null, .null])), (q1, .inl (cI, 18, .inl (fun _ => 0))), (q2, .inl (cI, 12, .inl (fun _ => 0))), (q3, .inl (cI, 12, .inl (fun _ => 0))), (q4, .inl (cI, 1284, .inl (fun _ => 0))), (q5, .inl (cI, 8, .inl (fun _ => 0))), (q6, .inl (cI, 8, .inl (fun _ => 0))), (q7, .inl (cI, 8, .inl (fun _ => 0)))] C hin tyX0_ok nmX0 rfl rfl (by decide) (by decide +kernel) rfl hi rfl (by decide +kernel) (Nat.le_of_ble_eq_true rfl) rfl dX0_init_58 ?_
  refine g_aload_n 0 C rfl dX0_init_61 rfl ?_
  refine g_bipush 8 C dX0_init_62 (by decide) ?_
  refine g_newa (cI := cI) 8 C rfl (by decide +kernel) (by decide) (by decide) (by decide) (by decide) (by decide) dX0_init_64 (fun q8 => ?_)
  refine g_putF (C0 := RX0) (T := TX0) (N := 17) 0 0 12 [(h0, .inr (0, [.int 0, .int 0, .int 0, .int 0, .int 0, .ref q1, .ref q2, .ref q3, .ref q4, .ref q5, .ref q6, .ref q7, .ref q8, .null, .null, .null, .null])), (q1, .inl (cI, 18, .inl (fun _ => 0))), (q2, .inl (cI, 12, .inl (fun _ => 0))), (q3, .inl (cI, 12, .inl (fun _ => 0))), (q4, .inl (cI, 1284, .inl (fun _ => 0))), (q5, .inl (cI, 8, .inl (fun _ => 0))), (q6, .inl (cI, 8, .inl (fun _ => 0))), (q7, .inl (cI, 8, .inl (fun _ => 0))), (q8, .inl (cI, 8, .inl (fun _ => 0)))] C hin tyX0_ok nmX0 rfl rfl (by decide) (by decide +kernel) rfl hi rfl (by decide +kernel) (Nat.le_of_ble_eq_true rfl) rfl dX0_init_66 ?_
  refine g_aload_n 0 C rfl dX0_init_69 rfl ?_
  refine g_bipush 8 C dX0_init_70 (by decide) ?_
  refine g_newa (cI := cI) 8 C rfl (by decide +kernel) (by decide) (by decide) (by decide) (by decide) (by decide) dX0_init_72 (fun q9 => ?_)
  refine g_putF (C0 := RX0) (T := TX0) (N := 17) 0 0 13 [(h0, .inr (0, [.int 0, .int 0, .int 0, .int 0, .int 0, .ref q1, .ref q2, .ref q3, .ref q4, .ref q5, .ref q6, .ref q7, .ref q8, .ref q9, .null, .null, .null])), (q1, .inl (cI, 18, .inl (fun _ => 0))), (q2, .inl (cI, 12, .inl (fun _ => 0))), (q3, .inl (cI, 12, .inl (fun _ => 0))), (q4, .inl (cI, 1284, .inl (fun _ => 0))), (q5, .inl (cI, 8, .inl (fun _ => 0))), (q6, .inl (cI, 8, .inl (fun _ => 0))), (q7, .inl (cI, 8, .inl (fun _ => 0))), (q8, .inl (cI, 8, .inl (fun _ => 0))), (q9, .inl (cI, 8, .inl (fun _ => 0)))] C hin tyX0_ok nmX0 rfl rfl (by decide) (by decide +kernel) rfl hi rfl (by decide +kernel) (Nat.le_of_ble_eq_true rfl) rfl dX0_init_74 ?_
  refine g_aload_n 0 C rfl dX0_init_77 rfl ?_
  refine g_bipush 8 C dX0_init_78 (by decide) ?_
  refine g_newa (cI := cI) 8 C rfl (by decide +kernel) (by decide) (by decide) (by decide) (by decide) (by decide) dX0_init_80 (fun q10 => ?_)
  refine g_putF (C0 := RX0) (T := TX0) (N := 17) 0 0 14 [(h0, .inr (0, [.int 0, .int 0, .int 0, .int 0, .int 0, .ref q1, .ref q2, .ref q3, .ref q4, .ref q5, .ref q6, .ref q7, .ref q8, .ref q9, .ref q10, .null, .null])), (q1, .inl (cI, 18, .inl (fun _ => 0))), (q2, .inl (cI, 12, .inl (fun _ => 0))), (q3, .inl (cI, 12, .inl (fun _ => 0))), (q4, .inl (cI, 1284, .inl (fun _ => 0))), (q5, .inl (cI, 8, .inl (fun _ => 0))), (q6, .inl (cI, 8, .inl (fun _ => 0))), (q7, .inl (cI, 8, .inl (fun _ => 0))), (q8, .inl (cI, 8, .inl (fun _ => 0))), (q9, .inl (cI, 8, .inl (fun _ => 0))), (q10, .inl (cI, 8, .inl (fun _ => 0)))] C hin tyX0_ok nmX0 rfl rfl (by decide) (by decide +kernel) rfl hi rfl (by decide +kernel) (Nat.le_of_ble_eq_true rfl) rfl dX0_init_82 ?_
  refine g_aload_n 0 C rfl dX0_init_85 rfl ?_
  refine g_iconst 4 C dX0_init_86 (by decide) ?_
  refine g_newa (cI := cI) 4 C rfl (by decide +kernel) (by decide) (by decide) (by decide) (by decide) (by decide) dX0_init_87 (fun q11 => ?_)
  refine g_putF (C0 := RX0) (T := TX0) (N := 17) 0 0 15 [(h0, .inr (0, [.int 0, .int 0, .int 0, .int 0, .int 0, .ref q1, .ref q2, .ref q3, .ref q4, .ref q5, .ref q6, .ref q7, .ref q8, .ref q9, .ref q10, .ref q11, .null])), (q1, .inl (cI, 18, .inl (fun _ => 0))), (q2, .inl (cI, 12, .inl (fun _ => 0))), (q3, .inl (cI, 12, .inl (fun _ => 0))), (q4, .inl (cI, 1284, .inl (fun _ => 0))), (q5, .inl (cI, 8, .inl (fun _ => 0))), (q6, .inl (cI, 8, .inl (fun _ => 0))), (q7, .inl (cI, 8, .inl (fun _ => 0))), (q8, .inl (cI, 8, .inl (fun _ => 0))), (q9, .inl (cI, 8, .inl (fun _ => 0))), (q10, .inl (cI, 8, .inl (fun _ => 0))), (q11, .inl (cI, 4, .inl (fun _ => 0)))] C hin tyX0_ok nmX0 rfl rfl (by decide) (by decide +kernel) rfl hi rfl (by decide +kernel) (Nat.le_of_ble_eq_true rfl) rfl dX0_init_89 ?_
  refine g_aload_n 0 C rfl dX0_init_92 rfl ?_
  refine g_iconst 4 C dX0_init_93 (by decide) ?_
  refine g_newa (cI := cI) 4 C rfl (by decide +kernel) (by decide) (by decide) (by decide) (by decide) (by decide) dX0_init_94 (fun q12 => ?_)
  refine g_putF (C0 := RX0) (T := TX0) (N := 17) 0 0 16 [(h0, .inr (0, [.int 0, .int 0, .int 0, .int 0, .int 0, .ref q1, .ref q2, .ref q3, .ref q4, .ref q5, .ref q6, .ref q7, .ref q8, .ref q9, .ref q10, .ref q11, .ref q12])), (q1, .inl (cI, 18, .inl (fun _ => 0))), (q2, .inl (cI, 12, .inl (fun _ => 0))), (q3, .inl (cI, 12, .inl (fun _ => 0))), (q4, .inl (cI, 1284, .inl (fun _ => 0))), (q5, .inl (cI, 8, .inl (fun _ => 0))), (q6, .inl (cI, 8, .inl (fun _ => 0))), (q7, .inl (cI, 8, .inl (fun _ => 0))), (q8, .inl (cI, 8, .inl (fun _ => 0))), (q9, .inl (cI, 8, .inl (fun _ => 0))), (q10, .inl (cI, 8, .inl (fun _ => 0))), (q11, .inl (cI, 4, .inl (fun _ => 0))), (q12, .inl (cI, 4, .inl (fun _ => 0)))] C hin tyX0_ok nmX0 rfl rfl (by decide) (by decide +kernel) rfl hi rfl (by decide +kernel) (Nat.le_of_ble_eq_true rfl) rfl dX0_init_96 ?_
  obtain ⟨h, hh⟩ : ∃ h : Nat → Nat, h = fun j => [h0, q1, q2, q3, q4, q5, q6, q7, q8, q9, q10, q11, q12].getD j 0 := ⟨_, rfl⟩
  refine g_w (wA cI h σz) (by rw [hh]; rfl) ?_
  refine g_lv [0] [(0, .ref (h 0))] (by rw [hh]; rfl) ?_
  have hh0 : h 0 = h0 := by rw [hh]; rfl
  refine g_iconst 0 C dX0_init_99 (by decide) ?_
  refine g_istore_n [(1, .int (0)), (0, .ref (h 0))] C dX0_init_100 rfl (by decide) rfl ?_
  have loop_101 : ∀ (fu : Nat) (i : Nat), i ≤ 4 → 5 ≤ i + fu → G p l e ({ frames := 2, cells := 12, slots := 1382, locals := 40 } : Room) s m args below meth c D (va_A [(h0, .inr (0, [.int 0, .int 0, .int 0, .int 0, .int 0, .null, .null, .null, .null, .null, .null, .null, .null, .null, .null, .null, .null]))] s.heap.size) 2 12 1382 (MQ below (cQ D [(h0, .inr (0, [.int 0, .int 0, .int 0, .int 0, .int 0, .null, .null, .null, .null, .null, .null, .null, .null, .null, .null, .null, .null]))] (fun h => (wA cI h (sA σz 10 (fillF (fun _ => 0) (fun _ => 50) 4)))) h0 s.heap.size) args s 12 1382 (va_A [(h0, .inr (0, [.int 0, .int 0, .int 0, .int 0, .int 0, .null, .null, .null, .null, .null, .null, .null, .null, .null, .null, .null, .null]))] s.heap.size)) (wA cI h (sA σz 10 (fillF (fun _ => 0) (fun _ => 50) i))) [(0, .ref (h 0)), (1, .int (nI (i)))] 101 [] := by
    intro fu
    induction fu with
    | zero => intro i hi2 hf; exact absurd True.intro (by omega)
    | succ fu ih_101 =>
      intro i hi2 hf
      refine g_iload_n 1 C rfl dX0_init_101 rfl ?_
      refine g_iconst 4 C dX0_init_102 (by decide) ?_
      refine g_icmp_ge 120 C dX0_init_103 (by decide) (fun c_103_1 => ?_) (fun c_103_1 => ?_)
      ·
        have d_103_1 : 4 ≤ i := (nI_leI (a := 4) (b := i) (by omega) (by omega)).mp c_103_1
        exact g_cret h C hr dX0_init_120 hh0 (by rw [show i = 4 by omega])
      ·
        have d_103_1 : ¬ 4 ≤ i := fun zz => c_103_1 ((nI_leI (a := 4) (b := i) (by omega) (by omega)).mpr zz)
        refine g_aload_n 0 C rfl dX0_init_106 rfl ?_
        refine g_get (C0 := RX0) (T := TX0) (N := 17) 0 0 15 (.ref (h 11)) C hin rfl rfl (by decide) (by decide +kernel) rfl dX0_init_107 ?_
        refine g_iload_n 1 C rfl dX0_init_110 rfl ?_
        refine g_bipush 50 C dX0_init_111 (by decide) ?_
        refine g_iastN (cA := cI) (n := 4) (a := h 11) (f := fillF (fun _ => 0) (fun _ => 50) i) (x := 50) i 11 0 (wA cI h (sA σz 10 (upd (fillF (fun _ => 0) (fun _ => 50) i) i (50)))) C rfl rfl (by omega) (by decide) rfl dX0_init_113 ?_
        refine g_iincN 1 i 1 [(1, .int (nI (i + 1))), (0, .ref (h 0))] C dX0_init_114 rfl (by decide) (by decide) rfl ?_
        refine g_goto 101 C dX0_init_117 (by decide) ?_
        refine g_lv [1, 0] [(0, .ref (h 0)), (1, .int (nI (i + 1)))] rfl ?_
        exact ih_101 (i + 1) (by omega) (by omega)
  refine g_lv [1, 0] [(0, .ref (h 0)), (1, .int (0))] rfl ?_
  exact loop_101 5 0 (by omega) (by omega)
set_option maxRecDepth 100000 in
set_option maxHeartbeats 4000000 in
theorem c_m_init (l : Launch) (D : va_G) (cI cJ : ClassId) (h0 : Nat) : MI l yX1_init wsX1_init 2 40 D (tyIJ cI cJ) h0 [(h0, .inr (1, [.int 0, .int 0, .null, .int 0, .null, .null, .null, .int 0, .null, .int 0, .null, .null, .null, .null, .null, .null, .null, .null, .null, .int 0, .null, .null]))] (fun h => (wM cI h (sA (sA σz 12 (fillF (fun _ => 0) (fun _ => 50) 4)) 9 (fillF (fun _ => 0) (fun _ => (-1)) 8)))) 16 1400 := by
  refine MI.ofG (cc := cX1_init) (maxL := 2) (ret := none) (by decide) rfl rfl (by decide) ?_
  intro p e s m args below meth c C hr hi
  have hin : ∀ w ∈ wsX10, w ∈ wsX1_init := fun w h => by first | exact List.mem_cons_of_mem _ (List.mem_append_right _ h) | exact List.mem_cons_of_mem _ (List.mem_append_left _ (List.mem_append_right _ h)) | exact List.mem_cons_of_mem _ (List.mem_append_left _ (List.mem_append_left _ (List.mem_append_right _ h))) | exact List.mem_cons_of_mem _ (List.mem_append_left _ (List.mem_append_left _ (List.mem_append_left _ (List.mem_append_right _ h)))) | exact List.mem_cons_of_mem _ (List.mem_append_left _ (List.mem_append_left _ (List.mem_append_left _ (List.mem_append_left _ (List.mem_append_right _ h)))))
  refine g_aload_n 0 C rfl dX1_init_0 rfl ?_
  refine g_objInit C (by decide +kernel) (by decide +kernel) (by decide +kernel) dX1_init_1 (by decide) (by decide) ?_
  refine g_aload_n 0 C rfl dX1_init_4 rfl ?_
  refine g_bipush 18 C dX1_init_5 (by decide) ?_
  refine g_newa (cI := cI) 18 C rfl (by decide +kernel) (by decide) (by decide) (by decide) (by decide) (by decide) dX1_init_7 (fun q1 => ?_)
  refine g_putF (C0 := RX1) (T := TX1) (N := 22) 0 1 2 [(h0, .inr (1, [.int 0, .int 0, .ref q1, .int 0, .null, .null, .null, .int 0, .null, .int 0, .null, .null, .null, .null, .null, .null, .null, .null, .null, .int 0, .null, .null])), (q1, .inl (cI, 18, .inl (fun _ => 0)))] C hin tyX1_ok nmX1 rfl rfl (by decide) (by decide +kernel) rfl hi rfl (by decide +kernel) (Nat.le_of_ble_eq_true rfl) rfl dX1_init_9 ?_
  refine g_aload_n 0 C rfl dX1_init_12 rfl ?_
  refine g_bipush 12 C dX1_init_13 (by decide) ?_
  refine g_newa (cI := cI) 12 C rfl (by decide +kernel) (by decide) (by decide) (by decide) (by decide) (by decide) dX1_init_15 (fun q2 => ?_)
  refine g_putF (C0 := RX1) (T := TX1) (N := 22) 0 1 4 [(h0, .inr (1, [.int 0, .int 0, .ref q1, .int 0, .ref q2, .null, .null, .int 0, .null, .int 0, .null, .null, .null, .null, .null, .null, .null, .null, .null, .int 0, .null, .null])), (q1, .inl (cI, 18, .inl (fun _ => 0))), (q2, .inl (cI, 12, .inl (fun _ => 0)))] C hin tyX1_ok nmX1 rfl rfl (by decide) (by decide +kernel) rfl hi rfl (by decide +kernel) (Nat.le_of_ble_eq_true rfl) rfl dX1_init_17 ?_
  refine g_aload_n 0 C rfl dX1_init_20 rfl ?_
  refine g_bipush 12 C dX1_init_21 (by decide) ?_
  refine g_newa (cI := cI) 12 C rfl (by decide +kernel) (by decide) (by decide) (by decide) (by decide) (by decide) dX1_init_23 (fun q3 => ?_)
  refine g_putF (C0 := RX1) (T := TX1) (N := 22) 0 1 5 [(h0, .inr (1, [.int 0, .int 0, .ref q1, .int 0, .ref q2, .ref q3, .null, .int 0, .null, .int 0, .null, .null, .null, .null, .null, .null, .null, .null, .null, .int 0, .null, .null])), (q1, .inl (cI, 18, .inl (fun _ => 0))), (q2, .inl (cI, 12, .inl (fun _ => 0))), (q3, .inl (cI, 12, .inl (fun _ => 0)))] C hin tyX1_ok nmX1 rfl rfl (by decide) (by decide +kernel) rfl hi rfl (by decide +kernel) (Nat.le_of_ble_eq_true rfl) rfl dX1_init_25 ?_
  refine g_aload_n 0 C rfl dX1_init_28 rfl ?_
  refine g_bipush 12 C dX1_init_29 (by decide) ?_
  refine g_newa (cI := cI) 12 C rfl (by decide +kernel) (by decide) (by decide) (by decide) (by decide) (by decide) dX1_init_31 (fun q4 => ?_)
  refine g_putF (C0 := RX1) (T := TX1) (N := 22) 0 1 6 [(h0, .inr (1, [.int 0, .int 0, .ref q1, .int 0, .ref q2, .ref q3, .ref q4, .int 0, .null, .int 0, .null, .null, .null, .null, .null, .null, .null, .null, .null, .int 0, .null, .null])), (q1, .inl (cI, 18, .inl (fun _ => 0))), (q2, .inl (cI, 12, .inl (fun _ => 0))), (q3, .inl (cI, 12, .inl (fun _ => 0))), (q4, .inl (cI, 12, .inl (fun _ => 0)))] C hin tyX1_ok nmX1 rfl rfl (by decide) (by decide +kernel) rfl hi rfl (by decide +kernel) (Nat.le_of_ble_eq_true rfl) rfl dX1_init_33 ?_
  refine g_aload_n 0 C rfl dX1_init_36 rfl ?_
  refine g_bipush 120 C dX1_init_37 (by decide) ?_
  refine g_newa (cI := cI) 120 C rfl (by decide +kernel) (by decide) (by decide) (by decide) (by decide) (by decide) dX1_init_39 (fun q5 => ?_)
  refine g_putF (C0 := RX1) (T := TX1) (N := 22) 0 1 8 [(h0, .inr (1, [.int 0, .int 0, .ref q1, .int 0, .ref q2, .ref q3, .ref q4, .int 0, .ref q5, .int 0, .null, .null, .null, .null, .null, .null, .null, .null, .null, .int 0, .null, .null])), (q1, .inl (cI, 18, .inl (fun _ => 0))), (q2, .inl (cI, 12, .inl (fun _ => 0))), (q3, .inl (cI, 12, .inl (fun _ => 0))), (q4, .inl (cI, 12, .inl (fun _ => 0))), (q5, .inl (cI, 120, .inl (fun _ => 0)))] C hin tyX1_ok nmX1 rfl rfl (by decide) (by decide +kernel) rfl hi rfl (by decide +kernel) (Nat.le_of_ble_eq_true rfl) rfl dX1_init_41 ?_
  refine g_aload_n 0 C rfl dX1_init_44 rfl ?_
  refine g_bipush 8 C dX1_init_45 (by decide) ?_
  refine g_newa (cI := cI) 8 C rfl (by decide +kernel) (by decide) (by decide) (by decide) (by decide) (by decide) dX1_init_47 (fun q6 => ?_)
  refine g_putF (C0 := RX1) (T := TX1) (N := 22) 0 1 10 [(h0, .inr (1, [.int 0, .int 0, .ref q1, .int 0, .ref q2, .ref q3, .ref q4, .int 0, .ref q5, .int 0, .ref q6, .null, .null, .null, .null, .null, .null, .null, .null, .int 0, .null, .null])), (q1, .inl (cI, 18, .inl (fun _ => 0))), (q2, .inl (cI, 12, .inl (fun _ => 0))), (q3, .inl (cI, 12, .inl (fun _ => 0))), (q4, .inl (cI, 12, .inl (fun _ => 0))), (q5, .inl (cI, 120, .inl (fun _ => 0))), (q6, .inl (cI, 8, .inl (fun _ => 0)))] C hin tyX1_ok nmX1 rfl rfl (by decide) (by decide +kernel) rfl hi rfl (by decide +kernel) (Nat.le_of_ble_eq_true rfl) rfl dX1_init_49 ?_
  refine g_aload_n 0 C rfl dX1_init_52 rfl ?_
  refine g_sipush 1152 C dX1_init_53 (by decide) ?_
  refine g_newa (cI := cI) 1152 C rfl (by decide +kernel) (by decide) (by decide) (by decide) (by decide) (by decide) dX1_init_56 (fun q7 => ?_)
  refine g_putF (C0 := RX1) (T := TX1) (N := 22) 0 1 11 [(h0, .inr (1, [.int 0, .int 0, .ref q1, .int 0, .ref q2, .ref q3, .ref q4, .int 0, .ref q5, .int 0, .ref q6, .ref q7, .null, .null, .null, .null, .null, .null, .null, .int 0, .null, .null])), (q1, .inl (cI, 18, .inl (fun _ => 0))), (q2, .inl (cI, 12, .inl (fun _ => 0))), (q3, .inl (cI, 12, .inl (fun _ => 0))), (q4, .inl (cI, 12, .inl (fun _ => 0))), (q5, .inl (cI, 120, .inl (fun _ => 0))), (q6, .inl (cI, 8, .inl (fun _ => 0))), (q7, .inl (cI, 1152, .inl (fun _ => 0)))] C hin tyX1_ok nmX1 rfl rfl (by decide) (by decide +kernel) rfl hi rfl (by decide +kernel) (Nat.le_of_ble_eq_true rfl) rfl dX1_init_58 ?_
  refine g_aload_n 0 C rfl dX1_init_61 rfl ?_
  refine g_bipush 8 C dX1_init_62 (by decide) ?_
  refine g_newa (cI := cI) 8 C rfl (by decide +kernel) (by decide) (by decide) (by decide) (by decide) (by decide) dX1_init_64 (fun q8 => ?_)
  refine g_putF (C0 := RX1) (T := TX1) (N := 22) 0 1 12 [(h0, .inr (1, [.int 0, .int 0, .ref q1, .int 0, .ref q2, .ref q3, .ref q4, .int 0, .ref q5, .int 0, .ref q6, .ref q7, .ref q8, .null, .null, .null, .null, .null, .null, .int 0, .null, .null])), (q1, .inl (cI, 18, .inl (fun _ => 0))), (q2, .inl (cI, 12, .inl (fun _ => 0))), (q3, .inl (cI, 12, .inl (fun _ => 0))), (q4, .inl (cI, 12, .inl (fun _ => 0))), (q5, .inl (cI, 120, .inl (fun _ => 0))), (q6, .inl (cI, 8, .inl (fun _ => 0))), (q7, .inl (cI, 1152, .inl (fun _ => 0))), (q8, .inl (cI, 8, .inl (fun _ => 0)))] C hin tyX1_ok nmX1 rfl rfl (by decide) (by decide +kernel) rfl hi rfl (by decide +kernel) (Nat.le_of_ble_eq_true rfl) rfl dX1_init_66 ?_
  refine g_aload_n 0 C rfl dX1_init_69 rfl ?_
  refine g_bipush 8 C dX1_init_70 (by decide) ?_
  refine g_newa (cI := cI) 8 C rfl (by decide +kernel) (by decide) (by decide) (by decide) (by decide) (by decide) dX1_init_72 (fun q9 => ?_)
  refine g_putF (C0 := RX1) (T := TX1) (N := 22) 0 1 13 [(h0, .inr (1, [.int 0, .int 0, .ref q1, .int 0, .ref q2, .ref q3, .ref q4, .int 0, .ref q5, .int 0, .ref q6, .ref q7, .ref q8, .ref q9, .null, .null, .null, .null, .null, .int 0, .null, .null])), (q1, .inl (cI, 18, .inl (fun _ => 0))), (q2, .inl (cI, 12, .inl (fun _ => 0))), (q3, .inl (cI, 12, .inl (fun _ => 0))), (q4, .inl (cI, 12, .inl (fun _ => 0))), (q5, .inl (cI, 120, .inl (fun _ => 0))), (q6, .inl (cI, 8, .inl (fun _ => 0))), (q7, .inl (cI, 1152, .inl (fun _ => 0))), (q8, .inl (cI, 8, .inl (fun _ => 0))), (q9, .inl (cI, 8, .inl (fun _ => 0)))] C hin tyX1_ok nmX1 rfl rfl (by decide) (by decide +kernel) rfl hi rfl (by decide +kernel) (Nat.le_of_ble_eq_true rfl) rfl dX1_init_74 ?_
  refine g_aload_n 0 C rfl dX1_init_77 rfl ?_
  refine g_bipush 8 C dX1_init_78 (by decide) ?_
  refine g_newa (cI := cI) 8 C rfl (by decide +kernel) (by decide) (by decide) (by decide) (by decide) (by decide) dX1_init_80 (fun q10 => ?_)
  refine g_putF (C0 := RX1) (T := TX1) (N := 22) 0 1 14 [(h0, .inr (1, [.int 0, .int 0, .ref q1, .int 0, .ref q2, .ref q3, .ref q4, .int 0, .ref q5, .int 0, .ref q6, .ref q7, .ref q8, .ref q9, .ref q10, .null, .null, .null, .null, .int 0, .null, .null])), (q1, .inl (cI, 18, .inl (fun _ => 0))), (q2, .inl (cI, 12, .inl (fun _ => 0))), (q3, .inl (cI, 12, .inl (fun _ => 0))), (q4, .inl (cI, 12, .inl (fun _ => 0))), (q5, .inl (cI, 120, .inl (fun _ => 0))), (q6, .inl (cI, 8, .inl (fun _ => 0))), (q7, .inl (cI, 1152, .inl (fun _ => 0))), (q8, .inl (cI, 8, .inl (fun _ => 0))), (q9, .inl (cI, 8, .inl (fun _ => 0))), (q10, .inl (cI, 8, .inl (fun _ => 0)))] C hin tyX1_ok nmX1 rfl rfl (by decide) (by decide +kernel) rfl hi rfl (by decide +kernel) (Nat.le_of_ble_eq_true rfl) rfl dX1_init_82 ?_
  refine g_aload_n 0 C rfl dX1_init_85 rfl ?_
  refine g_bipush 8 C dX1_init_86 (by decide) ?_
  refine g_newa (cI := cI) 8 C rfl (by decide +kernel) (by decide) (by decide) (by decide) (by decide) (by decide) dX1_init_88 (fun q11 => ?_)
  refine g_putF (C0 := RX1) (T := TX1) (N := 22) 0 1 15 [(h0, .inr (1, [.int 0, .int 0, .ref q1, .int 0, .ref q2, .ref q3, .ref q4, .int 0, .ref q5, .int 0, .ref q6, .ref q7, .ref q8, .ref q9, .ref q10, .ref q11, .null, .null, .null, .int 0, .null, .null])), (q1, .inl (cI, 18, .inl (fun _ => 0))), (q2, .inl (cI, 12, .inl (fun _ => 0))), (q3, .inl (cI, 12, .inl (fun _ => 0))), (q4, .inl (cI, 12, .inl (fun _ => 0))), (q5, .inl (cI, 120, .inl (fun _ => 0))), (q6, .inl (cI, 8, .inl (fun _ => 0))), (q7, .inl (cI, 1152, .inl (fun _ => 0))), (q8, .inl (cI, 8, .inl (fun _ => 0))), (q9, .inl (cI, 8, .inl (fun _ => 0))), (q10, .inl (cI, 8, .inl (fun _ => 0))), (q11, .inl (cI, 8, .inl (fun _ => 0)))] C hin tyX1_ok nmX1 rfl rfl (by decide) (by decide +kernel) rfl hi rfl (by decide +kernel) (Nat.le_of_ble_eq_true rfl) rfl dX1_init_90 ?_
  refine g_aload_n 0 C rfl dX1_init_93 rfl ?_
  refine g_bipush 8 C dX1_init_94 (by decide) ?_
  refine g_newa (cI := cI) 8 C rfl (by decide +kernel) (by decide) (by decide) (by decide) (by decide) (by decide) dX1_init_96 (fun q12 => ?_)
  refine g_putF (C0 := RX1) (T := TX1) (N := 22) 0 1 16 [(h0, .inr (1, [.int 0, .int 0, .ref q1, .int 0, .ref q2, .ref q3, .ref q4, .int 0, .ref q5, .int 0, .ref q6, .ref q7, .ref q8, .ref q9, .ref q10, .ref q11, .ref q12, .null, .null, .int 0, .null, .null])), (q1, .inl (cI, 18, .inl (fun _ => 0))), (q2, .inl (cI, 12, .inl (fun _ => 0))), (q3, .inl (cI, 12, .inl (fun _ => 0))), (q4, .inl (cI, 12, .inl (fun _ => 0))), (q5, .inl (cI, 120, .inl (fun _ => 0))), (q6, .inl (cI, 8, .inl (fun _ => 0))), (q7, .inl (cI, 1152, .inl (fun _ => 0))), (q8, .inl (cI, 8, .inl (fun _ => 0))), (q9, .inl (cI, 8, .inl (fun _ => 0))), (q10, .inl (cI, 8, .inl (fun _ => 0))), (q11, .inl (cI, 8, .inl (fun _ => 0))), (q12, .inl (cI, 8, .inl (fun _ => 0)))] C hin tyX1_ok nmX1 rfl rfl (by decide) (by decide +kernel) rfl hi rfl (by decide +kernel) (Nat.le_of_ble_eq_true rfl) rfl dX1_init_98 ?_
  refine g_aload_n 0 C rfl dX1_init_101 rfl ?_
  refine g_iconst 4 C dX1_init_102 (by decide) ?_
  refine g_newa (cI := cI) 4 C rfl (by decide +kernel) (by decide) (by decide) (by decide) (by decide) (by decide) dX1_init_103 (fun q13 => ?_)
  refine g_putF (C0 := RX1) (T := TX1) (N := 22) 0 1 17 [(h0, .inr (1, [.int 0, .int 0, .ref q1, .int 0, .ref q2, .ref q3, .ref q4, .int 0, .ref q5, .int 0, .ref q6, .ref q7, .ref q8, .ref q9, .ref q10, .ref q11, .ref q12, .ref q13, .null, .int 0, .null, .null])), (q1, .inl (cI, 18, .inl (fun _ => 0))), (q2, .inl (cI, 12, .inl (fun _ => 0))), (q3, .inl (cI, 12, .inl (fun _ => 0))), (q4, .inl (cI, 12, .inl (fun _ => 0))), (q5, .inl (cI, 120, .inl (fun _ => 0))), (q6, .inl (cI, 8, .inl (fun _ => 0))), (q7, .inl (cI, 1152, .inl (fun _ => 0))), (q8, .inl (cI, 8, .inl (fun _ => 0))), (q9, .inl (cI, 8, .inl (fun _ => 0))), (q10, .inl (cI, 8, .inl (fun _ => 0))), (q11, .inl (cI, 8, .inl (fun _ => 0))), (q12, .inl (cI, 8, .inl (fun _ => 0))), (q13, .inl (cI, 4, .inl (fun _ => 0)))] C hin tyX1_ok nmX1 rfl rfl (by decide) (by decide +kernel) rfl hi rfl (by decide +kernel) (Nat.le_of_ble_eq_true rfl) rfl dX1_init_105 ?_
  refine g_aload_n 0 C rfl dX1_init_108 rfl ?_
  refine g_iconst 4 C dX1_init_109 (by decide) ?_
  refine g_newa (cI := cI) 4 C rfl (by decide +kernel) (by decide) (by decide) (by decide) (by decide) (by decide) dX1_init_110 (fun q14 => ?_)
  refine g_putF (C0 := RX1) (T := TX1) (N := 22) 0 1 18 [(h0, .inr (1, [.int 0, .int 0, .ref q1, .int 0, .ref q2, .ref q3, .ref q4, .int 0, .ref q5, .int 0, .ref q6, .ref q7, .ref q8, .ref q9, .ref q10, .ref q11, .ref q12, .ref q13, .ref q14, .int 0, .null, .null])), (q1, .inl (cI, 18, .inl (fun _ => 0))), (q2, .inl (cI, 12, .inl (fun _ => 0))), (q3, .inl (cI, 12, .inl (fun _ => 0))), (q4, .inl (cI, 12, .inl (fun _ => 0))), (q5, .inl (cI, 120, .inl (fun _ => 0))), (q6, .inl (cI, 8, .inl (fun _ => 0))), (q7, .inl (cI, 1152, .inl (fun _ => 0))), (q8, .inl (cI, 8, .inl (fun _ => 0))), (q9, .inl (cI, 8, .inl (fun _ => 0))), (q10, .inl (cI, 8, .inl (fun _ => 0))), (q11, .inl (cI, 8, .inl (fun _ => 0))), (q12, .inl (cI, 8, .inl (fun _ => 0))), (q13, .inl (cI, 4, .inl (fun _ => 0))), (q14, .inl (cI, 4, .inl (fun _ => 0)))] C hin tyX1_ok nmX1 rfl rfl (by decide) (by decide +kernel) rfl hi rfl (by decide +kernel) (Nat.le_of_ble_eq_true rfl) rfl dX1_init_112 ?_
  refine g_aload_n 0 C rfl dX1_init_115 rfl ?_
  refine g_bipush 12 C dX1_init_116 (by decide) ?_
  refine g_newa (cI := cI) 12 C rfl (by decide +kernel) (by decide) (by decide) (by decide) (by decide) (by decide) dX1_init_118 (fun q15 => ?_)
  refine g_putF (C0 := RX1) (T := TX1) (N := 22) 0 1 20 [(h0, .inr (1, [.int 0, .int 0, .ref q1, .int 0, .ref q2, .ref q3, .ref q4, .int 0, .ref q5, .int 0, .ref q6, .ref q7, .ref q8, .ref q9, .ref q10, .ref q11, .ref q12, .ref q13, .ref q14, .int 0, .ref q15, .null])), (q1, .inl (cI, 18, .inl (fun _ => 0))), (q2, .inl (cI, 12, .inl (fun _ => 0))), (q3, .inl (cI, 12, .inl (fun _ => 0))), (q4, .inl (cI, 12, .inl (fun _ => 0))), (q5, .inl (cI, 120, .inl (fun _ => 0))), (q6, .inl (cI, 8, .inl (fun _ => 0))), (q7, .inl (cI, 1152, .inl (fun _ => 0))), (q8, .inl (cI, 8, .inl (fun _ => 0))), (q9, .inl (cI, 8, .inl (fun _ => 0))), (q10, .inl (cI, 8, .inl (fun _ => 0))), (q11, .inl (cI, 8, .inl (fun _ => 0))), (q12, .inl (cI, 8, .inl (fun _ => 0))), (q13, .inl (cI, 4, .inl (fun _ => 0))), (q14, .inl (cI, 4, .inl (fun _ => 0))), (q15, .inl (cI, 12, .inl (fun _ => 0)))] C hin tyX1_ok nmX1 rfl rfl (by decide) (by decide +kernel) rfl hi rfl (by decide +kernel) (Nat.le_of_ble_eq_true rfl) rfl dX1_init_120 ?_
  refine g_aload_n 0 C rfl dX1_init_123 rfl ?_
  refine g_bipush 6 C dX1_init_124 (by decide) ?_
  refine g_newa (cI := cI) 6 C rfl (by decide +kernel) (by decide) (by decide) (by decide) (by decide) (by decide) dX1_init_126 (fun q16 => ?_)
  refine g_putF (C0 := RX1) (T := TX1) (N := 22) 0 1 21 [(h0, .inr (1, [.int 0, .int 0, .ref q1, .int 0, .ref q2, .ref q3, .ref q4, .int 0, .ref q5, .int 0, .ref q6, .ref q7, .ref q8, .ref q9, .ref q10, .ref q11, .ref q12, .ref q13, .ref q14, .int 0, .ref q15, .ref q16])), (q1, .inl (cI, 18, .inl (fun _ => 0))), (q2, .inl (cI, 12, .inl (fun _ => 0))), (q3, .inl (cI, 12, .inl (fun _ => 0))), (q4, .inl (cI, 12, .inl (fun _ => 0))), (q5, .inl (cI, 120, .inl (fun _ => 0))), (q6, .inl (cI, 8, .inl (fun _ => 0))), (q7, .inl (cI, 1152, .inl (fun _ => 0))), (q8, .inl (cI, 8, .inl (fun _ => 0))), (q9, .inl (cI, 8, .inl (fun _ => 0))), (q10, .inl (cI, 8, .inl (fun _ => 0))), (q11, .inl (cI, 8, .inl (fun _ => 0))), (q12, .inl (cI, 8, .inl (fun _ => 0))), (q13, .inl (cI, 4, .inl (fun _ => 0))), (q14, .inl (cI, 4, .inl (fun _ => 0))), (q15, .inl (cI, 12, .inl (fun _ => 0))), (q16, .inl (cI, 6, .inl (fun _ => 0)))] C hin tyX1_ok nmX1 rfl rfl (by decide) (by decide +kernel) rfl hi rfl (by decide +kernel) (Nat.le_of_ble_eq_true rfl) rfl dX1_init_128 ?_
  obtain ⟨h, hh⟩ : ∃ h : Nat → Nat, h = fun j => [h0, q1, q2, q3, q4, q5, q6, q7, q8, q9, q10, q11, q12, q13, q14, q15, q16].getD j 0 := ⟨_, rfl⟩
  refine g_w (wM cI h σz) (by rw [hh]; rfl) ?_
  refine g_lv [0] [(0, .ref (h 0))] (by rw [hh]; rfl) ?_
  have hh0 : h 0 = h0 := by rw [hh]; rfl
  refine g_iconst 0 C dX1_init_131 (by decide) ?_
  refine g_istore_n [(1, .int (0)), (0, .ref (h 0))] C dX1_init_132 rfl (by decide) rfl ?_
  have loop_133 : ∀ (fu : Nat) (i : Nat), i ≤ 4 → 5 ≤ i + fu → G p l e ({ frames := 2, cells := 16, slots := 1400, locals := 40 } : Room) s m args below meth c D (va_A [(h0, .inr (1, [.int 0, .int 0, .null, .int 0, .null, .null, .null, .int 0, .null, .int 0, .null, .null, .null, .null, .null, .null, .null, .null, .null, .int 0, .null, .null]))] s.heap.size) 2 16 1400 (MQ below (cQ D [(h0, .inr (1, [.int 0, .int 0, .null, .int 0, .null, .null, .null, .int 0, .null, .int 0, .null, .null, .null, .null, .null, .null, .null, .null, .null, .int 0, .null, .null]))] (fun h => (wM cI h (sA (sA σz 12 (fillF (fun _ => 0) (fun _ => 50) 4)) 9 (fillF (fun _ => 0) (fun _ => (-1)) 8)))) h0 s.heap.size) args s 16 1400 (va_A [(h0, .inr (1, [.int 0, .int 0, .null, .int 0, .null, .null, .null, .int 0, .null, .int 0, .null, .null, .null, .null, .null, .null, .null, .null, .null, .int 0, .null, .null]))] s.heap.size)) (wM cI h (sA σz 12 (fillF (fun _ => 0) (fun _ => 50) i))) [(0, .ref (h 0)), (1, .int (nI (i)))] 133 [] := by
    intro fu
    induction fu with
    | zero => intro i hi2 hf; exact absurd True.intro (by omega)
    | succ fu ih_133 =>
      intro i hi2 hf
      refine g_iload_n 1 C rfl dX1_init_133 rfl ?_
      refine g_iconst 4 C dX1_init_134 (by decide) ?_
      refine g_icmp_ge 152 C dX1_init_135 (by decide) (fun c_135_1 => ?_) (fun c_135_1 => ?_)
      ·
        have d_135_1 : 4 ≤ i := (nI_leI (a := 4) (b := i) (by omega) (by omega)).mp c_135_1
        refine g_iconst 0 C dX1_init_152 (by decide) ?_
        refine g_istore_n [(1, .int (0)), (0, .ref (h 0))] C dX1_init_153 rfl (by decide) rfl ?_
        have loop_154 : ∀ (fu : Nat) (i2 : Nat), i2 ≤ 8 → 9 ≤ i2 + fu → G p l e ({ frames := 2, cells := 16, slots := 1400, locals := 40 } : Room) s m args below meth c D (va_A [(h0, .inr (1, [.int 0, .int 0, .null, .int 0, .null, .null, .null, .int 0, .null, .int 0, .null, .null, .null, .null, .null, .null, .null, .null, .null, .int 0, .null, .null]))] s.heap.size) 2 16 1400 (MQ below (cQ D [(h0, .inr (1, [.int 0, .int 0, .null, .int 0, .null, .null, .null, .int 0, .null, .int 0, .null, .null, .null, .null, .null, .null, .null, .null, .null, .int 0, .null, .null]))] (fun h => (wM cI h (sA (sA σz 12 (fillF (fun _ => 0) (fun _ => 50) 4)) 9 (fillF (fun _ => 0) (fun _ => (-1)) 8)))) h0 s.heap.size) args s 16 1400 (va_A [(h0, .inr (1, [.int 0, .int 0, .null, .int 0, .null, .null, .null, .int 0, .null, .int 0, .null, .null, .null, .null, .null, .null, .null, .null, .null, .int 0, .null, .null]))] s.heap.size)) (wM cI h (sA (sA σz 12 (fillF (fun _ => 0) (fun _ => 50) i)) 9 (fillF (fun _ => 0) (fun _ => (-1)) i2))) [(0, .ref (h 0)), (1, .int (nI (i2)))] 154 [] := by
          intro fu
          induction fu with
          | zero => intro i2 hi3 hf3; exact absurd True.intro (by omega)
          | succ fu ih_154 =>
            intro i2 hi3 hf3
            refine g_iload_n 1 C rfl dX1_init_154 rfl ?_
            refine g_bipush 8 C dX1_init_155 (by decide) ?_
            refine g_icmp_ge 173 C dX1_init_157 (by decide) (fun c_157_2 => ?_) (fun c_157_2 => ?_)
            ·
              have d_157_2 : 8 ≤ i2 := (nI_leI (a := 8) (b := i2) (by omega) (by omega)).mp c_157_2
              exact g_cret h C hr dX1_init_173 hh0 (by rw [show i = 4 by omega, show i2 = 8 by omega])
            ·
              have d_157_2 : ¬ 8 ≤ i2 := fun zz => c_157_2 ((nI_leI (a := 8) (b := i2) (by omega) (by omega)).mpr zz)
              refine g_aload_n 0 C rfl dX1_init_160 rfl ?_
              refine g_get (C0 := RX1) (T := TX1) (N := 22) 0 1 14 (.ref (h 10)) C hin rfl rfl (by decide) (by decide +kernel) rfl dX1_init_161 ?_
              refine g_iload_n 1 C rfl dX1_init_164 rfl ?_
              refine g_iconst (-1) C dX1_init_165 (by decide) ?_
              refine g_iastN (cA := cI) (n := 8) (a := h 10) (f := fillF (fun _ => 0) (fun _ => (-1)) i2) (x := ((-1))) i2 10 0 (wM cI h (sA (sA σz 12 (fillF (fun _ => 0) (fun _ => 50) i)) 9 (upd (fillF (fun _ => 0) (fun _ => (-1)) i2) i2 (((-1)))))) C rfl rfl (by omega) (by decide) rfl dX1_init_166 ?_
              refine g_iincN 1 i2 1 [(1, .int (nI (i2 + 1))), (0, .ref (h 0))] C dX1_init_167 rfl (by decide) (by decide) rfl ?_
              refine g_goto 154 C dX1_init_170 (by decide) ?_
              refine g_lv [1, 0] [(0, .ref (h 0)), (1, .int (nI (i2 + 1)))] rfl ?_
              exact ih_154 (i2 + 1) (by omega) (by omega)
        refine g_lv [1, 0] [(0, .ref (h 0)), (1, .int (0))] rfl ?_
        exact loop_154 9 0 (by omega) (by omega)
      ·
        have d_135_1 : ¬ 4 ≤ i := fun zz => c_135_1 ((nI_leI (a := 4) (b := i) (by omega) (by omega)).mpr zz)
        refine g_aload_n 0 C rfl dX1_init_138 rfl ?_
        refine g_get (C0 := RX1) (T := TX1) (N := 22) 0 1 17 (.ref (h 13)) C hin rfl rfl (by decide) (by decide +kernel) rfl dX1_init_139 ?_
        refine g_iload_n 1 C rfl dX1_init_142 rfl ?_
        refine g_bipush 50 C dX1_init_143 (by decide) ?_
        refine g_iastN (cA := cI) (n := 4) (a := h 13) (f := fillF (fun _ => 0) (fun _ => 50) i) (x := 50) i 13 0 (wM cI h (sA σz 12 (upd (fillF (fun _ => 0) (fun _ => 50) i) i (50)))) C rfl rfl (by omega) (by decide) rfl dX1_init_145 ?_
        refine g_iincN 1 i 1 [(1, .int (nI (i + 1))), (0, .ref (h 0))] C dX1_init_146 rfl (by decide) (by decide) rfl ?_
        refine g_goto 133 C dX1_init_149 (by decide) ?_
        refine g_lv [1, 0] [(0, .ref (h 0)), (1, .int (nI (i + 1)))] rfl ?_
        exact ih_133 (i + 1) (by omega) (by omega)
  refine g_lv [1, 0] [(0, .ref (h 0)), (1, .int (0))] rfl ?_
  exact loop_133 5 0 (by omega) (by omega)
