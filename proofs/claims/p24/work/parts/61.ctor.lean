/-! The constructors. -/
set_option maxRecDepth 100000 in
set_option maxHeartbeats 4000000 in
theorem c_init (l : Launch) (D : va_G) (cI cJ : ClassId) (h0 : Nat) : MI l yX0_init wsX0_init 2 40 D (tyIJ cI cJ) h0 [(h0, .inr (0, [.int 0, .int 0, .int 0, .int 0, .int 0, .null, .null, .null, .null, .null, .null, .null, .null, .null, .null, .null, .null]))] (fun h => (wA cI h (sA σz 10 (fillF (fun _ => 0) (fun _ => 50) 4)))) 12 1382 := by
  refine MI.ofG (cc := cX0_init) (maxL := 2) (ret := none) (by decide) rfl rfl (by decide) ?_
  intro p e s m args below meth c C hr hi
  have hin : ∀ w ∈ wsX00, w ∈ wsX0_init := fun w h => by first | exact List.mem_cons_of_mem _ (List.mem_append_right _ h) | exact List.mem_cons_of_mem _ (List.mem_append_left _ (List.mem_append_right _ h)) | exact List.mem_cons_of_mem _ (List.mem_append_left _ (List.mem_append_left _ (List.mem_append_right _ h))) | exact List.mem_cons_of_mem _ (List.mem_append_left _ (List.mem_append_left _ (List.mem_append_left _ (List.mem_append_right _ h)))) | exact List.mem_cons_of_mem _ (List.mem_append_left _ (List.mem_append_left _ (List.mem_append_left _ (List.mem_append_left _ (List.mem_append_right _ h)))))
  refine g_aload_n 0 C rfl dX0_init_0 rfl ?_
  refine g_objInit C (by decide +kernel) (by decide +kernel) (by decide +kernel) dX0_init_1 (by decide) (by decide) ?_
  refine g_aload_n 0 C rfl dX0_init_4 rfl ?_
  refine g_bipush 18 C dX0_init_5 (by decide) ?_
  refine g_newa (cI := cI) 18 C rfl (by decide +kernel) (by decide) (by decide) (by decide) (by decide) (by decide) dX0_init_7 (fun q1 => ?_)
  refine g_putF (C0 := RX0) (T := TX0) (N := 17) 0 0 5 [(h0, .inr (0, [.int 0, .int 0, .int 0, .int 0, .int 0, .ref q1, .null, .null, .null, .null, .null, .null, .null, .null, .null, .null, .null])), (q1, .inl (cI, 18, .inl (fun _ => 0)))] C hin tyX0_ok nmX0 rfl rfl (by decide) (by decide +kernel) rfl hi rfl (by decide +kernel) (Nat.le_of_ble_eq_true rfl) rfl dX0_init_9 ?_
  refine g_aload_n 0 C rfl dX0_init_12 rfl ?_
  refine g_bipush 12 C dX0_init_13 (by decide) ?_
  refine g_newa (cI := cI) 12 C rfl (by decide +kernel) (by decide) (by decide) (by decide) (by decide) (by decide) dX0_init_15 (fun q2 => ?_)
  refine g_putF (C0 := RX0) (T := TX0) (N := 17) 0 0 6 [(h0, .inr (0, [.int 0, .int 0, .int 0, .int 0, .int 0, .ref q1, .ref q2, .null, .null, .null, .null, .null, .null, .null, .null, .null, .null])), (q1, .inl (cI, 18, .inl (fun _ => 0))), (q2, .inl (cI, 12, .inl (fun _ => 0)))] C hin tyX0_ok nmX0 rfl rfl (by decide) (by decide +kernel) rfl hi rfl (by decide +kernel) (Nat.le_of_ble_eq_true rfl) rfl dX0_init_17 ?_
  refine g_aload_n 0 C rfl dX0_init_20 rfl ?_
  refine g_bipush 12 C dX0_init_21 (by decide) ?_
  refine g_newa (cI := cI) 12 C rfl (by decide +kernel) (by decide) (by decide) (by decide) (by decide) (by decide) dX0_init_23 (fun q3 => ?_)
  refine g_putF (C0 := RX0) (T := TX0) (N := 17) 0 0 7 [(h0, .inr (0, [.int 0, .int 0, .int 0, .int 0, .int 0, .ref q1, .ref q2, .ref q3, .null, .null, .null, .null, .null, .null, .null, .null, .null])), (q1, .inl (cI, 18, .inl (fun _ => 0))), (q2, .inl (cI, 12, .inl (fun _ => 0))), (q3, .inl (cI, 12, .inl (fun _ => 0)))] C hin tyX0_ok nmX0 rfl rfl (by decide) (by decide +kernel) rfl hi rfl (by decide +kernel) (Nat.le_of_ble_eq_true rfl) rfl dX0_init_25 ?_
  refine g_aload_n 0 C rfl dX0_init_28 rfl ?_
  refine g_sipush 1284 C dX0_init_29 (by decide) ?_
  refine g_newa (cI := cI) 1284 C rfl (by decide +kernel) (by decide) (by decide) (by decide) (by decide) (by decide) dX0_init_32 (fun q4 => ?_)
  refine g_putF (C0 := RX0) (T := TX0) (N := 17) 0 0 8 [(h0, .inr (0, [.int 0, .int 0, .int 0, .int 0, .int 0, .ref q1, .ref q2, .ref q3, .ref q4, .null, .null, .null, .null, .null, .null, .null, .null])), (q1, .inl (cI, 18, .inl (fun _ => 0))), (q2, .inl (cI, 12, .inl (fun _ => 0))), (q3, .inl (cI, 12, .inl (fun _ => 0))), (q4, .inl (cI, 1284, .inl (fun _ => 0)))] C hin tyX0_ok nmX0 rfl rfl (by decide) (by decide +kernel) rfl hi rfl (by decide +kernel) (Nat.le_of_ble_eq_true rfl) rfl dX0_init_34 ?_
  refine g_aload_n 0 C rfl dX0_init_37 rfl ?_
  refine g_bipush 8 C dX0_init_38 (by decide) ?_
  refine g_newa (cI := cI) 8 C rfl (by decide +kernel) (by decide) (by decide) (by decide) (by decide) (by decide) dX0_init_40 (fun q5 => ?_)
  refine g_putF (C0 := RX0) (T := TX0) (N := 17) 0 0 9 [(h0, .inr (0, [.int 0, .int 0, .int 0, .int 0, .int 0, .ref q1, .ref q2, .ref q3, .ref q4, .ref q5, .null, .null, .null, .null, .null, .null, .null])), (q1, .inl (cI, 18, .inl (fun _ => 0))), (q2, .inl (cI, 12, .inl (fun _ => 0))), (q3, .inl (cI, 12, .inl (fun _ => 0))), (q4, .inl (cI, 1284, .inl (fun _ => 0))), (q5, .inl (cI, 8, .inl (fun _ => 0)))] C hin tyX0_ok nmX0 rfl rfl (by decide) (by decide +kernel) rfl hi rfl (by decide +kernel) (Nat.le_of_ble_eq_true rfl) rfl dX0_init_42 ?_
  refine g_aload_n 0 C rfl dX0_init_45 rfl ?_
  refine g_bipush 8 C dX0_init_46 (by decide) ?_
  refine g_newa (cI := cI) 8 C rfl (by decide +kernel) (by decide) (by decide) (by decide) (by decide) (by decide) dX0_init_48 (fun q6 => ?_)
  refine g_putF (C0 := RX0) (T := TX0) (N := 17) 0 0 10 [(h0, .inr (0, [.int 0, .int 0, .int 0, .int 0, .int 0, .ref q1, .ref q2, .ref q3, .ref q4, .ref q5, .ref q6, .null, .null, .null, .null, .null, .null])), (q1, .inl (cI, 18, .inl (fun _ => 0))), (q2, .inl (cI, 12, .inl (fun _ => 0))), (q3, .inl (cI, 12, .inl (fun _ => 0))), (q4, .inl (cI, 1284, .inl (fun _ => 0))), (q5, .inl (cI, 8, .inl (fun _ => 0))), (q6, .inl (cI, 8, .inl (fun _ => 0)))] C hin tyX0_ok nmX0 rfl rfl (by decide) (by decide +kernel) rfl hi rfl (by decide +kernel) (Nat.le_of_ble_eq_true rfl) rfl dX0_init_50 ?_
  refine g_aload_n 0 C rfl dX0_init_53 rfl ?_
  refine g_bipush 8 C dX0_init_54 (by decide) ?_
  refine g_newa (cI := cI) 8 C rfl (by decide +kernel) (by decide) (by decide) (by decide) (by decide) (by decide) dX0_init_56 (fun q7 => ?_)
  refine g_putF (C0 := RX0) (T := TX0) (N := 17) 0 0 11 [(h0, .inr (0, [.int 0, .int 0, .int 0, .int 0, .int 0, .ref q1, .ref q2, .ref q3, .ref q4, .ref q5, .ref q6, .ref q7, .null, .null, .null, .null, .null])), (q1, .inl (cI, 18, .inl (fun _ => 0))), (q2, .inl (cI, 12, .inl (fun _ => 0))), (q3, .inl (cI, 12, .inl (fun _ => 0))), (q4, .inl (cI, 1284, .inl (fun _ => 0))), (q5, .inl (cI, 8, .inl (fun _ => 0))), (q6, .inl (cI, 8, .inl (fun _ => 0))), (q7, .inl (cI, 8, .inl (fun _ => 0)))] C hin tyX0_ok nmX0 rfl rfl (by decide) (by decide +kernel) rfl hi rfl (by decide +kernel) (Nat.le_of_ble_eq_true rfl) rfl dX0_init_58 ?_
  refine g_aload_n 0 C rfl dX0_init_61 rfl ?_
  refine g_bipush 8 C dX0_init_62 (by decide) ?_
  refine g_newa (cI := cI) 8 C rfl (by decide +kernel) (by decide) (by decide) (by decide) (by decide) (by decide) dX0_init_64 (fun q8 => ?_)
  refine g_putF (C0 := RX0) (T := TX0) (N := 17) 0 0 12 [(h0, .inr (0, [.int 0, .int 0, .int 0, .int 0, .int 0, .ref q1, .ref q2, .ref q3, .ref q4, .ref q5, .ref q6, .ref q7, .ref q8, .null, .null, .null, .null])), (q1, .inl (cI, 18, .inl (fun _ => 0))), (q2, .inl (cI, 12, .inl (fun _ => 0))), (q3, .inl (cI, 12, .inl (fun _ => 0))), (q4, .inl (cI, 1284, .inl (fun _ => 0))), (q5, .inl (cI, 8, .inl (fun _ => 0))), (q6, .inl (cI, 8, .inl (fun _ => 0))), (q7, .inl (cI, 8, .inl (fun _ => 0))), (q8, .inl (cI, 8, .inl (fun _ => 0)))] C hin tyX0_ok nmX0 rfl rfl (by decide) (by decide +kernel) rfl hi rfl (by decide +kernel) (Nat.le_of_ble_eq_true rfl) rfl dX0_init_66 ?_
  refine g_aload_n 0 C rfl dX0_init_69 rfl ?_
  refine g_bipush 8 C dX0_init_70 (by decide) ?_
  refine g_newa (cI := cI) 8 C rfl (by decide +kernel) (by decide) (by decide) (by decide) (by decide) (by decide) dX0_init_72 (fun q9 => ?_)
  refine g_putF (C0 := RX0) (T := TX0) (N := 17) 0 0 13 [(h0, .inr (0, [.int 0, .int 0, .int 0, .int 0, .int 0, .ref q1, .ref q2, .ref q3, .ref q4, .ref q5, .ref q6, .ref q7, .ref q8, .ref q9, .null, .null, .null])), (q1, .inl (cI, 18, .inl (fun _ => 0))), (q2, .inl (cI, 12, .inl (fun _ => 0))), (q3, .inl (cI, 12, .inl (fun _ => 0))), (q4, .inl (cI, 1284, .inl (fun _ => 0))), (q5, .inl (cI, 8, .inl (fun _ => 0))), (q6, .inl (cI, 8, .inl (fun _ => 0))), (q7, .inl (cI, 8, .inl (fun _ => 0))), (q8, .inl (cI, 8, .inl (fun _ => 0))), (q9, .inl (cI, 8, .inl (fun _ => 0)))] C hin tyX0_ok nmX0 rfl rfl (by decide) (by decide +kernel) rfl hi rfl (by decide +kernel) (Nat.le_of_ble_eq_true rfl) rfl dX0_init_74 ?_
  refine g_aload_n 0 C rfl dX0_init_77 rfl ?_
  refine g_bipush 8 C dX0_init_78 (by decide) ?_
  refine g_newa (cI := cI) 8 C rfl (by decide +kernel) (by decide) (by decide) (by decide) (by decide) (by decide) dX0_init_80 (fun q10 => ?_)
  refine g_putF (C0 := RX0) (T := TX0) (N := 17) 0 0 14 [(h0, .inr (0, [.int 0, .int 0, .int 0, .int 0, .int 0, .ref q1, .ref q2, .ref q3, .ref q4, .ref q5, .ref q6, .ref q7, .ref q8, .ref q9, .ref q10, .null, .null])), (q1, .inl (cI, 18, .inl (fun _ => 0))), (q2, .inl (cI, 12, .inl (fun _ => 0))), (q3, .inl (cI, 12, .inl (fun _ => 0))), (q4, .inl (cI, 1284, .inl (fun _ => 0))), (q5, .inl (cI, 8, .inl (fun _ => 0))), (q6, .inl (cI, 8, .inl (fun _ => 0))), (q7, .inl (cI, 8, .inl (fun _ => 0))), (q8, .inl (cI, 8, .inl (fun _ => 0))), (q9, .inl (cI, 8, .inl (fun _ => 0))), (q10, .inl (cI, 8, .inl (fun _ => 0)))] C hin tyX0_ok nmX0 rfl rfl (by decide) (by decide +kernel) rfl hi rfl (by decide +kernel) (Nat.le_of_ble_eq_true rfl) rfl dX0_init_82 ?_
  refine g_aload_n 0 C rfl dX0_init_85 rfl ?_
  refine g_iconst 4 C dX0_init_86 (by decide) ?_
  refine g_newa (cI := cI) 4 C rfl (by decide +kernel) (by decide) (by decide) (by decide) (by decide) (by decide) dX0_init_87 (fun q11 => ?_)
  refine g_putF (C0 := RX0) (T := TX0) (N := 17) 0 0 15 [(h0, .inr (0, [.int 0, .int 0, .int 0, .int 0, .int 0, .ref q1, .ref q2, .ref q3, .ref q4, .ref q5, .ref q6, .ref q7, .ref q8, .ref q9, .ref q10, .ref q11, .null])), (q1, .inl (cI, 18, .inl (fun _ => 0))), (q2, .inl (cI, 12, .inl (fun _ => 0))), (q3, .inl (cI, 12, .inl (fun _ => 0))), (q4, .inl (cI, 1284, .inl (fun _ => 0))), (q5, .inl (cI, 8, .inl (fun _ => 0))), (q6, .inl (cI, 8, .inl (fun _ => 0))), (q7, .inl (cI, 8, .inl (fun _ => 0))), (q8, .inl (cI, 8, .inl (fun _ => 0))), (q9, .inl (cI, 8, .inl (fun _ => 0))), (q10, .inl (cI, 8, .inl (fun _ => 0))), (q11, .inl (cI, 4, .inl (fun _ => 0)))] C hin tyX0_ok nmX0 rfl rfl (by decide) (by decide +kernel) rfl hi rfl (by decide +kernel) (Nat.le_of_ble_eq_true rfl) rfl dX0_init_89 ?_
  refine g_aload_n 0 C rfl dX0_init_92 rfl ?_
  refine g_iconst 4 C dX0_init_93 (by decide) ?_
  refine g_newa (cI := cI) 4 C rfl (by decide +kernel) (by decide) (by decide) (by decide) (by decide) (by decide) dX0_init_94 (fun q12 => ?_)
  refine g_putF (C0 := RX0) (T := TX0) (N := 17) 0 0 16 [(h0, .inr (0, [.int 0, .int 0, .int 0, .int 0, .int 0, .ref q1, .ref q2, .ref q3, .ref q4, .ref q5, .ref q6, .ref q7, .ref q8, .ref q9, .ref q10, .ref q11, .ref q12])), (q1, .inl (cI, 18, .inl (fun _ => 0))), (q2, .inl (cI, 12, .inl (fun _ => 0))), (q3, .inl (cI, 12, .inl (fun _ => 0))), (q4, .inl (cI, 1284, .inl (fun _ => 0))), (q5, .inl (cI, 8, .inl (fun _ => 0))), (q6, .inl (cI, 8, .inl (fun _ => 0))), (q7, .inl (cI, 8, .inl (fun _ => 0))), (q8, .inl (cI, 8, .inl (fun _ => 0))), (q9, .inl (cI, 8, .inl (fun _ => 0))), (q10, .inl (cI, 8, .inl (fun _ => 0))), (q11, .inl (cI, 4, .inl (fun _ => 0))), (q12, .inl (cI, 4, .inl (fun _ => 0)))] C hin tyX0_ok nmX0 rfl rfl (by decide) (by decide +kernel) rfl hi rfl (by decide +kernel) (Nat.le_of_ble_eq_true rfl) rfl dX0_init_96 ?_
  obtain ⟨h, hh⟩ : ∃ h : Nat → Nat, h = fun j => [h0, q1, q2, q3, q4, q5, q6, q7, q8, q9, q10, q11, q12].getD j 0 := ⟨_, rfl⟩
  refine g_w (wA cI h σz) (by rw [hh]; rfl) ?_
  refine g_lv [0] [(0, .ref (h 0))] (by rw [hh]; rfl) ?_
  have hh0 : h 0 = h0 := by rw [hh]; rfl
  refine g_iconst 0 C dX0_init_99 (by decide) ?_
  refine g_istore_n [(1, .int (0)), (0, .ref (h 0))] C dX0_init_100 rfl (by decide) rfl ?_
  have loop_101 : ∀ (fu : Nat) (i : Nat), i ≤ 4 → 5 ≤ i + fu → G p l e ({ frames := 2, cells := 12, slots := 1382, locals := 40 } : Room) s m args below meth c D (va_A [(h0, .inr (0, [.int 0, .int 0, .int 0, .int 0, .int 0, .null, .null, .null, .null, .null, .null, .null, .null, .null, .null, .null, .null]))] s.heap.size) 2 12 1382 (MQ below (cQ D [(h0, .inr (0, [.int 0, .int 0, .int 0, .int 0, .int 0, .null, .null, .null, .null, .null, .null, .null, .null, .null, .null, .null, .null]))] (fun h => (wA cI h (sA σz 10 (fillF (fun _ => 0) (fun _ => 50) 4)))) h0 s.heap.size) args s 12 1382 (va_A [(h0, .inr (0, [.int 0, .int 0, .int 0, .int 0, .int 0, .null, .null, .null, .null, .null, .null, .null, .null, .null, .null, .null, .null]))] s.heap.size)) (wA cI h (sA σz 10 (fillF (fun _ => 0) (fun _ => 50) i))) [(0, .ref (h 0)), (1, .int (nI (i)))] 101 [] := by
    intro fu
    induction fu with
    | zero => intro i hi2 hf; exact absurd True.intro (by omega)
    | succ fu ih_101 =>
      intro i hi2 hf
      refine g_iload_n 1 C rfl dX0_init_101 rfl ?_
      refine g_iconst 4 C dX0_init_102 (by decide) ?_
      refine g_icmp_ge 120 C dX0_init_103 (by decide) (fun c_103_1 => ?_) (fun c_103_1 => ?_)
      ·
        have d_103_1 : 4 ≤ i := (nI_leI (a := 4) (b := i) (by omega) (by omega)).mp c_103_1
        exact g_cret h C hr dX0_init_120 hh0 (by rw [show i = 4 by omega])
      ·
        have d_103_1 : ¬ 4 ≤ i := fun zz => c_103_1 ((nI_leI (a := 4) (b := i) (by omega) (by omega)).mpr zz)
        refine g_aload_n 0 C rfl dX0_init_106 rfl ?_
        refine g_get (C0 := RX0) (T := TX0) (N := 17) 0 0 15 (.ref (h 11)) C hin rfl rfl (by decide) (by decide +kernel) rfl dX0_init_107 ?_
        refine g_iload_n 1 C rfl dX0_init_110 rfl ?_
        refine g_bipush 50 C dX0_init_111 (by decide) ?_
        refine g_iastN (cA := cI) (n := 4) (a := h 11) (f := fillF (fun _ => 0) (fun _ => 50) i) (x := 50) i 11 0 (wA cI h (sA σz 10 (upd (fillF (fun _ => 0) (fun _ => 50) i) i (50)))) C rfl rfl (by omega) (by decide) rfl dX0_init_113 ?_
        refine g_iincN 1 i 1 [(1, .int (nI (i + 1))), (0, .ref (h 0))] C dX0_init_114 rfl (by decide) (by decide) rfl ?_
        refine g_goto 101 C dX0_init_117 (by decide) ?_
        refine g_lv [1, 0] [(0, .ref (h 0)), (1, .int (nI (i + 1)))] rfl ?_
        exact ih_101 (i + 1) (by omega) (by omega)
  refine g_lv [1, 0] [(0, .ref (h 0)), (1, .int (0))] rfl ?_
  exact loop_101 5 0 (by omega) (by omega)
