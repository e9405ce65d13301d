/-! The book, its questions about rows. -/
set_option maxRecDepth 100000 in
set_option maxHeartbeats 4000000 in
theorem c_isLent (l : Launch) (D : va_G) (cI cJ : ClassId) (h : Nat → Nat) (σ : gS) (np nt no ni : Nat) (hI : iA σ np nt no ni) (q : Nat) (hq : q < 8) : MC l yX0_isLent wsX0_isLent 0 0 D (tyIJ cI cJ) [.ref (h 0), .int (nI (q))] (wA cI h σ) (wA cI h σ) none (some (.int (bI (¬ σ.2 7 q ≤ 0)))) 0 := by
  have hI0 := hI
  obtain ⟨⟨hnp, hnp6⟩, ⟨hnt, hnt12⟩, ⟨hno, hno10⟩, ⟨hni, hni8⟩, hPT, hLC, hLH⟩ := hI
  refine MC.ofG (cc := cX0_isLent) (maxL := 2) (ret := (some .boolean)) [(0, .ref (h 0)), (1, .int (nI (q)))] (by decide) rfl (Nat.le_of_ble_eq_true rfl) rfl ?_
  intro p e s m args below meth c C hr hout
  have hin : ∀ w ∈ wsX00, w ∈ wsX0_isLent := fun w h => by first | exact List.mem_cons_of_mem _ (List.mem_append_right _ h) | exact List.mem_cons_of_mem _ (List.mem_append_left _ (List.mem_append_right _ h)) | exact List.mem_cons_of_mem _ (List.mem_append_left _ (List.mem_append_left _ (List.mem_append_right _ h))) | exact List.mem_cons_of_mem _ (List.mem_append_left _ (List.mem_append_left _ (List.mem_append_left _ (List.mem_append_right _ h)))) | exact List.mem_cons_of_mem _ (List.mem_append_left _ (List.mem_append_left _ (List.mem_append_left _ (List.mem_append_left _ (List.mem_append_right _ h)))))
  refine g_aload_n 0 C rfl dX0_isLent_0 rfl ?_
  refine g_get (C0 := RX0) (T := TX0) (N := 17) 0 0 12 (.ref (h 8)) C hin rfl rfl (by decide) (by decide +kernel) rfl dX0_isLent_1 ?_
  refine g_iload_n 1 C rfl dX0_isLent_4 rfl ?_
  refine g_ialdN (cA := cI) (n := 8) (a := h 8) (f := σ.2 7) q 8 0 C rfl rfl (by omega) (by decide) dX0_isLent_5 ?_
  refine g_if_le 13 C dX0_isLent_6 (by decide) (fun c_6_1 => ?_) (fun c_6_1 => ?_)
  ·
    refine g_iconst 0 C dX0_isLent_13 (by decide) ?_
    exact g_iret C hr rfl dX0_isLent_14 (Nat.zero_le _) (Nat.zero_le _) rfl (congrArg (fun x => some (Value.int x)) (bI_0 (not_not_intro c_6_1)).symm) rfl
  ·
    refine g_iconst 1 C dX0_isLent_9 (by decide) ?_
    refine g_goto 14 C dX0_isLent_10 (by decide) ?_
    exact g_iret C hr rfl dX0_isLent_14 (Nat.zero_le _) (Nat.zero_le _) rfl (congrArg (fun x => some (Value.int x)) (bI_1 c_6_1).symm) rfl
set_option maxRecDepth 100000 in
set_option maxHeartbeats 4000000 in
theorem c_sumOfRow (l : Launch) (D : va_G) (cI cJ : ClassId) (h : Nat → Nat) (σ : gS) (np nt no ni : Nat) (hI : iA σ np nt no ni) (r : Nat) (hr1 : r < 107) : MC l yX0_sumOfRow wsX0_sumOfRow 1 21 D (tyIJ cI cJ) [.ref (h 0), .int (nI (r))] (wA cI h σ) (wA cI h σ) none (some (.int (rowS (σ.2 3) r nt))) 0 := by
  have hI0 := hI
  obtain ⟨⟨hnp, hnp6⟩, ⟨hnt, hnt12⟩, ⟨hno, hno10⟩, ⟨hni, hni8⟩, hPT, hLC, hLH⟩ := hI
  refine MC.ofG (cc := cX0_sumOfRow) (maxL := 4) (ret := (some .int)) [(0, .ref (h 0)), (1, .int (nI (r)))] (by decide) rfl (Nat.le_of_ble_eq_true rfl) rfl ?_
  intro p e s m args below meth c C hr hout
  have hin : ∀ w ∈ wsX00, w ∈ wsX0_sumOfRow := fun w h => by first | exact List.mem_cons_of_mem _ (List.mem_append_right _ h) | exact List.mem_cons_of_mem _ (List.mem_append_left _ (List.mem_append_right _ h)) | exact List.mem_cons_of_mem _ (List.mem_append_left _ (List.mem_append_left _ (List.mem_append_right _ h))) | exact List.mem_cons_of_mem _ (List.mem_append_left _ (List.mem_append_left _ (List.mem_append_left _ (List.mem_append_right _ h)))) | exact List.mem_cons_of_mem _ (List.mem_append_left _ (List.mem_append_left _ (List.mem_append_left _ (List.mem_append_left _ (List.mem_append_right _ h)))))
  refine g_iconst 0 C dX0_sumOfRow_0 (by decide) ?_
  refine g_istore_n [(2, .int (0)), (0, .ref (h 0)), (1, .int (nI (r)))] C dX0_sumOfRow_1 rfl (by decide) rfl ?_
  refine g_iconst 0 C dX0_sumOfRow_2 (by decide) ?_
  refine g_istore_n [(3, .int (0)), (2, .int (0)), (0, .ref (h 0)), (1, .int (nI (r)))] C dX0_sumOfRow_3 rfl (by decide) rfl ?_
  have loop_4 : ∀ (fu : Nat) (i : Nat), i ≤ nt → nt + 1 ≤ i + fu → G p l e ({ frames := 1, cells := 0, slots := 6 * 0, locals := 21 } : Room) s m args below meth c D (va_A (wA cI h σ) s.heap.size) 4 0 0 (gQ below D (wA cI h σ) (wA cI h σ) none (some (.int (rowS (σ.2 3) r nt))) 0 args s) (wA cI h σ) [(0, .ref (h 0)), (1, .int (nI (r))), (2, .int (rowS (σ.2 3) r i)), (3, .int (nI (i)))] 4 [] := by
    intro fu
    induction fu with
    | zero => intro i hi hf; exact absurd True.intro (by omega)
    | succ fu ih_4 =>
      intro i hi hf
      refine g_iload_n 3 C rfl dX0_sumOfRow_4 rfl ?_
      refine g_aload_n 0 C rfl dX0_sumOfRow_5 rfl ?_
      refine g_get (C0 := RX0) (T := TX0) (N := 17) 0 0 1 (.int (σ.1 1)) C hin rfl rfl (by decide) (by decide +kernel) rfl dX0_sumOfRow_6 ?_
      refine g_is (nI nt) hnt ?_
      refine g_icmp_ge 31 C dX0_sumOfRow_9 (by decide) (fun c_9_1 => ?_) (fun c_9_1 => ?_)
      ·
        have d_9_1 : nt ≤ i := (nI_leI (by omega) (by omega)).mp c_9_1
        refine g_iload_n 2 C rfl dX0_sumOfRow_31 rfl ?_
        exact g_iret C hr rfl dX0_sumOfRow_32 (Nat.zero_le _) (Nat.zero_le _) rfl (by rw [show nt = i by omega]) rfl
      ·
        have d_9_1 : ¬ nt ≤ i := fun q => c_9_1 ((nI_leI (by omega) (by omega)).mpr q)
        refine g_iload_n 2 C rfl dX0_sumOfRow_12 rfl ?_
        refine g_aload_n 0 C rfl dX0_sumOfRow_13 rfl ?_
        refine g_get (C0 := RX0) (T := TX0) (N := 17) 0 0 8 (.ref (h 4)) C hin rfl rfl (by decide) (by decide +kernel) rfl dX0_sumOfRow_14 ?_
        refine g_iload_n 1 C rfl dX0_sumOfRow_17 rfl ?_
        refine g_iload_n 3 C rfl dX0_sumOfRow_18 rfl ?_
        refine g_callS0 (na := 2) (av := [.int (nI (r)), .int (nI (i))]) (c_place l D cI cJ _ r i) C gX0_sumOfRow_X0_place rfl (by decide +kernel) rfl ⟨Nat.le_of_ble_eq_true rfl, Nat.le_of_ble_eq_true rfl⟩ rfl (Nat.le_of_ble_eq_true rfl) ⟨Nat.zero_le _, Nat.zero_le _⟩ rfl dX0_sumOfRow_19 ?_
        refine g_ialdN (cA := cI) (n := 1284) (a := h 4) (f := σ.2 3) (r * 12 + i) 4 0 C rfl rfl (by omega) (by decide) dX0_sumOfRow_22 ?_
        refine g_iadd C dX0_sumOfRow_23 ?_
        refine g_istore_n [(2, .int ((rowS (σ.2 3) r i) + (σ.2 3 (r * 12 + i)))), (0, .ref (h 0)), (1, .int (nI (r))), (3, .int (nI (i)))] C dX0_sumOfRow_24 rfl (by decide) rfl ?_
        refine g_iincN 3 i 1 [(3, .int (nI (i + 1))), (2, .int ((rowS (σ.2 3) r i) + (σ.2 3 (r * 12 + i)))), (0, .ref (h 0)), (1, .int (nI (r)))] C dX0_sumOfRow_25 rfl (by decide) (by decide) rfl ?_
        refine g_goto 4 C dX0_sumOfRow_28 (by decide) ?_
        refine g_lv [2, 3, 1, 0] [(0, .ref (h 0)), (1, .int (nI (r))), (2, .int ((rowS (σ.2 3) r i) + (σ.2 3 (r * 12 + i)))), (3, .int (nI (i + 1)))] rfl ?_
        exact ih_4 (i + 1) (by omega) (by omega)
  refine g_lv [2, 3, 1, 0] [(0, .ref (h 0)), (1, .int (nI (r))), (2, .int (0)), (3, .int (0))] rfl ?_
  exact loop_4 (nt + 1) 0 (by omega) (by omega)
set_option maxRecDepth 100000 in
set_option maxHeartbeats 4000000 in
theorem c_sumOfTube (l : Launch) (D : va_G) (cI cJ : ClassId) (h : Nat → Nat) (σ : gS) (np nt no ni : Nat) (hI : iA σ np nt no ni) (t f n : Nat) (ht : t < 12) (hn : f + n ≤ 107) : MC l yX0_sumOfTube wsX0_sumOfTube 1 21 D (tyIJ cI cJ) [.ref (h 0), .int (nI (t)), .int (nI (f)), .int (nI (f + n))] (wA cI h σ) (wA cI h σ) none (some (.int (tubS (σ.2 3) t f n))) 0 := by
  have hI0 := hI
  obtain ⟨⟨hnp, hnp6⟩, ⟨hnt, hnt12⟩, ⟨hno, hno10⟩, ⟨hni, hni8⟩, hPT, hLC, hLH⟩ := hI
  refine MC.ofG (cc := cX0_sumOfTube) (maxL := 6) (ret := (some .int)) [(0, .ref (h 0)), (1, .int (nI (t))), (2, .int (nI (f))), (3, .int (nI (f + n)))] (by decide) rfl (Nat.le_of_ble_eq_true rfl) rfl ?_
  intro p e s m args below meth c C hr hout
  have hin : ∀ w ∈ wsX00, w ∈ wsX0_sumOfTube := fun w h => by first | exact List.mem_cons_of_mem _ (List.mem_append_right _ h) | exact List.mem_cons_of_mem _ (List.mem_append_left _ (List.mem_append_right _ h)) | exact List.mem_cons_of_mem _ (List.mem_append_left _ (List.mem_append_left _ (List.mem_append_right _ h))) | exact List.mem_cons_of_mem _ (List.mem_append_left _ (List.mem_append_left _ (List.mem_append_left _ (List.mem_append_right _ h)))) | exact List.mem_cons_of_mem _ (List.mem_append_left _ (List.mem_append_left _ (List.mem_append_left _ (List.mem_append_left _ (List.mem_append_right _ h)))))
  refine g_iconst 0 C dX0_sumOfTube_0 (by decide) ?_
  refine g_istore [(4, .int (0)), (0, .ref (h 0)), (1, .int (nI (t))), (2, .int (nI (f))), (3, .int (nI (f + n)))] C dX0_sumOfTube_1 (by decide) rfl ?_
  refine g_iload_n 3 C rfl dX0_sumOfTube_3 rfl ?_
  refine g_istore [(5, .int (nI (f))), (4, .int (0)), (0, .ref (h 0)), (1, .int (nI (t))), (2, .int (nI (f))), (3, .int (nI (f + n)))] C dX0_sumOfTube_4 (by decide) rfl ?_
  have loop_6 : ∀ (fu : Nat) (i : Nat), i ≤ n → n + 1 ≤ i + fu → G p l e ({ frames := 1, cells := 0, slots := 6 * 0, locals := 21 } : Room) s m args below meth c D (va_A (wA cI h σ) s.heap.size) 6 0 0 (gQ below D (wA cI h σ) (wA cI h σ) none (some (.int (tubS (σ.2 3) t f n))) 0 args s) (wA cI h σ) [(0, .ref (h 0)), (1, .int (nI (t))), (2, .int (nI (f))), (3, .int (nI (f + n))), (4, .int (tubS (σ.2 3) t f i)), (5, .int (nI (f + i)))] 6 [] := by
    intro fu
    induction fu with
    | zero => intro i hi hf; exact absurd True.intro (by omega)
    | succ fu ih_6 =>
      intro i hi hf
      refine g_iload 5 C rfl dX0_sumOfTube_6 ?_
      refine g_iload_n 3 C rfl dX0_sumOfTube_8 rfl ?_
      refine g_icmp_ge 34 C dX0_sumOfTube_9 (by decide) (fun c_9_1 => ?_) (fun c_9_1 => ?_)
      ·
        have d_9_1 : (f + n) ≤ (f + i) := (nI_leI (by omega) (by omega)).mp c_9_1
        refine g_iload 4 C rfl dX0_sumOfTube_34 ?_
        exact g_iret C hr rfl dX0_sumOfTube_36 (Nat.zero_le _) (Nat.zero_le _) rfl (by rw [show n = i by omega]) rfl
      ·
        have d_9_1 : ¬ (f + n) ≤ (f + i) := fun q => c_9_1 ((nI_leI (by omega) (by omega)).mpr q)
        refine g_iload 4 C rfl dX0_sumOfTube_12 ?_
        refine g_aload_n 0 C rfl dX0_sumOfTube_14 rfl ?_
        refine g_get (C0 := RX0) (T := TX0) (N := 17) 0 0 8 (.ref (h 4)) C hin rfl rfl (by decide) (by decide +kernel) rfl dX0_sumOfTube_15 ?_
        refine g_iload 5 C rfl dX0_sumOfTube_18 ?_
        refine g_iload_n 1 C rfl dX0_sumOfTube_20 rfl ?_
        refine g_callS0 (na := 2) (av := [.int (nI (f + i)), .int (nI (t))]) (c_place l D cI cJ _ (f + i) t) C gX0_sumOfTube_X0_place rfl (by decide +kernel) rfl ⟨Nat.le_of_ble_eq_true rfl, Nat.le_of_ble_eq_true rfl⟩ rfl (Nat.le_of_ble_eq_true rfl) ⟨Nat.zero_le _, Nat.zero_le _⟩ rfl dX0_sumOfTube_21 ?_
        refine g_ialdN (cA := cI) (n := 1284) (a := h 4) (f := σ.2 3) ((f + i) * 12 + t) 4 0 C rfl rfl (by omega) (by decide) dX0_sumOfTube_24 ?_
        refine g_iadd C dX0_sumOfTube_25 ?_
        refine g_istore [(4, .int ((tubS (σ.2 3) t f i) + (σ.2 3 ((f + i) * 12 + t)))), (0, .ref (h 0)), (1, .int (nI (t))), (2, .int (nI (f))), (3, .int (nI (f + n))), (5, .int (nI (f + i)))] C dX0_sumOfTube_26 (by decide) rfl ?_
        refine g_iincN 5 (f + i) 1 [(5, .int (nI ((f + i) + 1))), (4, .int ((tubS (σ.2 3) t f i) + (σ.2 3 ((f + i) * 12 + t)))), (0, .ref (h 0)), (1, .int (nI (t))), (2, .int (nI (f))), (3, .int (nI (f + n)))] C dX0_sumOfTube_28 rfl (by decide) (by decide) rfl ?_
        refine g_goto 6 C dX0_sumOfTube_31 (by decide) ?_
        refine g_lv [2, 3, 4, 5, 1, 0] [(0, .ref (h 0)), (1, .int (nI (t))), (2, .int (nI (f))), (3, .int (nI (f + n))), (4, .int ((tubS (σ.2 3) t f i) + (σ.2 3 ((f + i) * 12 + t)))), (5, .int (nI ((f + i) + 1)))] rfl ?_
        exact ih_6 (i + 1) (by omega) (by omega)
  refine g_lv [2, 3, 4, 5, 1, 0] [(0, .ref (h 0)), (1, .int (nI (t))), (2, .int (nI (f))), (3, .int (nI (f + n))), (4, .int (0)), (5, .int (nI (f)))] rfl ?_
  exact loop_6 (n + 1) 0 (by omega) (by omega)
set_option maxRecDepth 100000 in
set_option maxHeartbeats 4000000 in
theorem c_colourOfTube (l : Launch) (D : va_G) (cI cJ : ClassId) (h : Nat → Nat) (σ : gS) (np nt no ni : Nat) (hI : iA σ np nt no ni) (t ch : Nat) (ht : t < 12) (hc : ch < 3) : MC l yX0_colourOfTube wsX0_colourOfTube 0 0 D (tyIJ cI cJ) [.ref (h 0), .int (nI (t)), .int (nI (ch))] (wA cI h σ) (wA cI h σ) none (some (.int (colT σ t ch))) 0 := by
  have hI0 := hI
  obtain ⟨⟨hnp, hnp6⟩, ⟨hnt, hnt12⟩, ⟨hno, hno10⟩, ⟨hni, hni8⟩, hPT, hLC, hLH⟩ := hI
  refine MC.ofG (cc := cX0_colourOfTube) (maxL := 3) (ret := (some .int)) [(0, .ref (h 0)), (1, .int (nI (t))), (2, .int (nI (ch)))] (by decide) rfl (Nat.le_of_ble_eq_true rfl) rfl ?_
  intro p e s m args below meth c C hr hout
  have hin : ∀ w ∈ wsX00, w ∈ wsX0_colourOfTube := fun w h => by first | exact List.mem_cons_of_mem _ (List.mem_append_right _ h) | exact List.mem_cons_of_mem _ (List.mem_append_left _ (List.mem_append_right _ h)) | exact List.mem_cons_of_mem _ (List.mem_append_left _ (List.mem_append_left _ (List.mem_append_right _ h))) | exact List.mem_cons_of_mem _ (List.mem_append_left _ (List.mem_append_left _ (List.mem_append_left _ (List.mem_append_right _ h)))) | exact List.mem_cons_of_mem _ (List.mem_append_left _ (List.mem_append_left _ (List.mem_append_left _ (List.mem_append_left _ (List.mem_append_right _ h)))))
  refine g_aload_n 0 C rfl dX0_colourOfTube_0 rfl ?_
  refine g_get (C0 := RX0) (T := TX0) (N := 17) 0 0 5 (.ref (h 1)) C hin rfl rfl (by decide) (by decide +kernel) rfl dX0_colourOfTube_1 ?_
  refine g_aload_n 0 C rfl dX0_colourOfTube_4 rfl ?_
  refine g_get (C0 := RX0) (T := TX0) (N := 17) 0 0 6 (.ref (h 2)) C hin rfl rfl (by decide) (by decide +kernel) rfl dX0_colourOfTube_5 ?_
  refine g_iload_n 1 C rfl dX0_colourOfTube_8 rfl ?_
  refine g_ialdN (cA := cI) (n := 12) (a := h 2) (f := σ.2 1) t 2 0 C rfl rfl (by omega) (by decide) dX0_colourOfTube_9 ?_
  obtain ⟨j, hj, ej⟩ := hPT t
  refine g_is (nI j) ej ?_
  refine g_iconst 3 C dX0_colourOfTube_10 (by decide) ?_
  refine g_imulN j 3 C dX0_colourOfTube_11 ?_
  refine g_iload_n 2 C rfl dX0_colourOfTube_12 rfl ?_
  refine g_iaddN (j * 3) ch C dX0_colourOfTube_13 ?_
  refine g_ialdN (cA := cI) (n := 18) (a := h 1) (f := σ.2 0) ((j * 3) + ch) 1 0 C rfl rfl (by omega) (by decide) dX0_colourOfTube_14 ?_
  exact g_iret C hr rfl dX0_colourOfTube_15 (Nat.zero_le _) (Nat.zero_le _) rfl (by rw [colT, ej, cl_nI (by omega)]) rfl
