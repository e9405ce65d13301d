/-! The book, its questions about rows. -/
set_option maxRecDepth 100000 in
set_option maxHeartbeats 4000000 in
theorem c_isLent (l : Launch) (D : va_G) (cI cJ : ClassId) (h : Nat → Nat) (σ : gS) (np nt no ni : Nat) (hI : iA σ np nt no ni) (q : Nat) (hq : q < 8) : MC l yX0_isLent wsX0_isLent 0 0 D (tyIJ cI cJ) [.ref (h 0), .int (nI (q))] (wA cI h σ) (wA cI h σ) none (some (.int (bI (¬ σ.2 7 q ≤ 0)))) 0 := by
  have hI0 := hI
  obtain ⟨⟨hnp, hnp6⟩, ⟨hnt, hnt12⟩, ⟨hno, hno10⟩, ⟨hni, hni8⟩, hPT, hLC, hLH⟩ := hI
  refine MC.ofG (cc := cX0_isLent) (maxL := 2) (ret := (some .boolean)) [(0, .ref (h 0)), (1, .int (nI (q)))] (by decide) rfl (Nat.le_of_ble_eq_true rfl) rfl ?_
  intro p e s m args below meth c C hr hout
  have hin : ∀ w ∈ wsX00, w ∈ wsX0_isLent := fun w h => by first | exact List.mem_cons_of_mem _ (List.mem_append_right _ h) | exact List.mem_cons_of_mem _ (List.mem_append_left _ (List.mem_append_right _ h)) | exact List.mem_cons_of_mem _ (List.mem_append_left _ (List.mem_append_left _ (List.mem_append_right _ h))) | exact List.mem_cons_of_mem _ (List.mem_append_left _ (List.mem_append_left _ (List.mem_append_left _ (List.mem_append_right _ h)))) | exact List.mem_cons_of_mem _ (List.mem_append_left _ (List.mem_append_left _ (List.mem_append_left _ (List.mem_append_left _ (List.mem_append_right _ h)))))
  refine g_aload_n 0 C rfl dX0_isLent_0 rfl ?_
  refine g_get (C0 := RX0) (T := TX0) (N := 17) 0 0 12 (.ref (h 8)) C hin rfl rfl (by decide) (by decide +kernel) rfl dX0_isLent_1 ?_
  refine g_iload_n 1 C rfl dX0_isLent_4 rfl ?_
  refine g_ialdN (cA := cI) (n := 8) (a := h 8) (f := σ.2 7) q 8 0 C rfl rfl (by omega) (by decide) dX0_isLent_5 ?_
  refine g_if_le 13 C dX0_isLent_6 (by decide) (fun c_6_1 => ?_) (fun c_6_1 => ?_)
  ·
    refine g_iconst 0 C dX0_isLent_13 (by decide) ?_
    exact g_iret C hr rfl dX0_isLent_14 (Nat.zero_le _) (Nat.zero_le _) rfl (congrArg (fun x => some (Value.int x)) (bI_0 (not_not_intro c_6_1)).symm) rfl
  ·
    refine g_iconst 1 C dX0_isLent_9 (by decide) ?_
    refine g_goto 14 C dX0_isLent_10 (by decide) ?_
    exact g_iret C hr rfl dX0_isLent_14 (Nat.zero_le _) (Nat.zero_le _) rfl (congrArg (fun x => some (Value.int x)) (bI_1 c_6_1).symm) rfl
set_option maxRecDepth 100000 in
set_option maxHeartbeats 4000000 in
theorem c_sumOfRow (l : Launch) (D : va_G) (cI cJ : ClassId) (h : Nat → Nat) (σ : gS) (np nt no ni : Nat) (hI : iA σ np nt no ni) (r : Nat) (hr1 : r < 107) : MC l yX0_sumOfRow wsX0_sumOfRow 1 21 D (tyIJ cI cJ) [.ref (h 0), .int (nI (r))] (wA cI h σ) (wA cI h σ) none (some (.int (rowS (σ.2 3) r nt))) 0 := by
  have hI0 := hI
  obtain ⟨⟨hnp, hnp6⟩, ⟨hnt, hnt12⟩, ⟨hno, hno10⟩, ⟨hni, hni8⟩, hPT, hLC, hLH⟩ := hI
  refine MC.ofG (cc := cX0_sumOfRow) (maxL := 4) (ret := (some .int)) [(0, .ref (h 0)), (1, .int (nI (r)))] (by decide) rfl (Nat.le_of_ble_eq_true rfl) rfl ?_
  intro p e s m args below meth c C hr hout
  have hin : ∀ w ∈ wsX00, w ∈ wsX0_sumOfRow := fun w h => by first | exact List.mem_cons_of_mem _ (List.mem_append_right _ h) | exact List.mem_cons_of_mem _ (List.mem_append_left _ (List.mem_append_right _ h)) | exact List.mem_cons_of_mem _ (List.mem_append_left _ (List.mem_append_left _ (List.mem_append_right _ h))) | exact List.mem_cons_of_mem _ (List.mem_append_left _ (List.mem_append_left _ (List.mem_append_left _ (List.mem_append_right _ h)))) | exact List.mem_cons_of_mem _ (List.mem_append_left _ (List.mem_append_left _ (List.mem_append_left _ (List.mem_append_left _ (List.mem_append_right _ h)))))
  refine g_iconst 0 C dX0_sumOfRow_0 (by decide) ?_
  refine g_istore_n [(2, .int (0)), (0, .ref (h 0)), (1, .int (nI (r)))] C dX0_sumOfRow_1 rfl (by decide) rfl ?_
  refine g_iconst 0 C dX0_sumOfRow_2 (by decide) ?_
  refine g_istore_n [(3, .int (0)), (2, .int (0)), (0, .ref (h 0)), (1, .int (nI (r)))] C dX0_sumOfRow_3 rfl (by decide) rfl ?_
  have loop_4 : ∀ (fu : Nat) (i : Nat), i ≤ nt → nt + 1 ≤ i + fu → G p l e ({ frames := 1, cells := 0, slots := 6 * 0, locals := 21 } : Room) s m args below meth c D (va_A (wA cI h σ) s.heap.size) 4 0 0 (gQ below D (wA cI h σ) (wA cI h σ) none (some (.int (rowS (σ.2 3) r nt))) 0 args s) (wA cI h σ) [(0, .ref (h 0)), (1, .int (nI (r))), (2, .int (rowS (σ.2 3) r i)), (3, .int (nI (i)))] 4 [] := by
    intro fu
    induction fu with
    | zero => intro i hi hf; exact absurd True.intro (by omega)
    | succ fu ih_4 =>
      intro i hi hf
      refine g_iload_n 3 C rfl dX0_sumOfRow_4 rfl ?_
      refine g_aload_n 0 C rfl dX0_sumOfRow_5 rfl ?_
      refine g_get (C0 := RX0) (T := TX0) (N := 17) 0 0 1 (.int (σ.1 1)) C hin rfl rfl (by decide) (by decide +kernel) rfl dX0_sumOfRow_6 ?_
      refine g_is (nI nt) hnt ?_
      refine g_icmp_ge 31 C dX0_sumOfRow_9 (by decide) (fun c_9_1 => ?_) (fun c_9_1 => ?_)
      ·
        have d_9_1 : nt ≤ i := (nI_leI (a := nt) (b := i) (by omega) (by omega)).mp c_9_1
        refine g_iload_n 2 C rfl dX0_sumOfRow_31 rfl ?_
        exact g_iret C hr rfl dX0_sumOfRow_32 (Nat.zero_le _) (Nat.zero_le _) rfl (by rw [show nt = i by omega]) rfl
      ·
        have d_9_1 : ¬ nt ≤ i := fun q => c_9_1 ((nI_leI (a := nt) (b := i) (by omega) (by omega)).mpr q)
        refine g_iload_n 2 C rfl dX0_sumOfRow_12 rfl ?_
        refine g_aload_n 0 C rfl dX0_sumOfRow_13 rfl ?_
        refine g_get (C0 := RX0) (T := TX0) (N := 17) 0 0 8 (.ref (h 4)) C hin rfl rfl (by decide) (by decide +kernel) rfl dX0_sumOfRow_14 ?_
        refine g_iload_n 1 C rfl dX0_sumOfRow_17 rfl ?_
        refine g_iload_n 3 C rfl dX0_sumOfRow_18 rfl ?_
        refine g_callS0 (na := 2) (av := [.int (nI (r)), .int (nI (i))]) (c_place l D cI cJ _ r i) C gX0_sumOfRow_X0_place rfl (by decide +kernel) rfl ⟨Nat.le_of_ble_eq_true rfl, Nat.le_of_ble_eq_true rfl⟩ rfl (Nat.le_of_ble_eq_true rfl) ⟨Nat.zero_le _, Nat.zero_le _⟩ rfl dX0_sumOfRow_19 ?_
        refine g_ialdN (cA := cI) (n := 1284) (a := h 4) (f := σ.2 3) (r * 12 + i) 4 0 C rfl rfl (by omega) (by decide) dX0_sumOfRow_22 ?_
        refine g_iadd C dX0_sumOfRow_23 ?_
        refine g_istore_n [(2, .int ((rowS (σ.2 3) r i) + (σ.2 3 (r * 12 + i)))), (0, .ref (h 0)), (1, .int (nI (r))), (3, .int (nI (i)))] C dX0_sumOfRow_24 rfl (by decide) rfl ?_
        refine g_iincN 3 i 1 [(3, .int (nI (i + 1))), (2, .int ((rowS (σ.2 3) r i) + (σ.2 3 (r * 12 + i)))), (0, .ref (h 0)), (1, .int (nI (r)))] C dX0_sumOfRow_25 rfl (by decide) (by decide) rfl ?_
        refine g_goto 4 C dX0_sumOfRow_28 (by decide) ?_
        refine g_lv [2, 3, 1, 0] [(0, .ref (h 0)), (1, .int (nI (r))), (2, .int ((rowS (σ.2 3) r i) + (σ.2 3 (r * 12 + i)))), (3, .int (nI (i + 1)))] rfl ?_
        exact ih_4 (i + 1) (by omega) (by omega)
  refine g_lv [2, 3, 1, 0] [(0, .ref (h 0)), (1, .int (nI (r))), (2, .int (0)), (3, .int (0))] rfl ?_
  exact loop_4 (nt + 1) 0 (by omega) (by omega)
set_option maxRecDepth 100000 in
set_option maxHeartbeats 4000000 in
theorem c_sumOfTube (l : Launch) (D : va_G) (cI cJ : ClassId) (h : Nat → Nat) (σ : gS) (np nt no ni : Nat) (hI : iA σ np nt no ni) (t f n : Nat) (ht : t < 12) (hn : f + n ≤ 107) : MC l yX0_sumOfTube wsX0_sumOfTube 1 21 D (tyIJ cI cJ) [.ref (h 0), .int (nI (t)), .int (nI (f)), .int (nI (f + n))] (wA cI h σ) (wA cI h σ) none (some (.int (tubS (σ.2 3) t f n))) 0 := by
  have hI0 := hI
  obtain ⟨⟨hnp, hnp6⟩, ⟨hnt, hnt12⟩, ⟨hno, hno10⟩, ⟨hni, hni8⟩, hPT, hLC, hLH⟩ := hI
  refine MC.ofG (cc := cX0_sumOfTube) (maxL := 6) (ret := (some .int)) [(0, .ref (h 0)), (1, .int (nI (t))), (2, .int (nI (f))), (3, .int (nI (f + n)))] (by decide) rfl (Nat.le_of_ble_eq_true rfl) rfl ?_
  intro p e s m args below meth c C hr hout
  have hin : ∀ w ∈ wsX00, w ∈ wsX0_sumOfTube := fun w h => by first | exact List.mem_cons_of_mem _ (List.mem_append_right _ h) | exact List.mem_cons_of_mem _ (List.mem_append_left _ (List.mem_append_right _ h)) | exact List.mem_cons_of_mem _ (List.mem_append_left _ (List.mem_append_left _ (List.mem_append_right _ h))) | exact List.mem_cons_of_mem _ (List.mem_append_left _ (List.mem_append_left _ (List.mem_append_left _ (List.mem_append_right _ h)))) | exact List.mem_cons_of_mem _ (List.mem_append_left _ (List.mem_append_left _ (List.mem_append_left _ (List.mem_append_left _ (List.mem_append_right _ h)))))
  refine g_iconst 0 C dX0_sumOfTube_0 (by decide) ?_
  refine g_istore [(4, .int (0)), (0, .ref (h 0)), (1, .int (nI (t))), (2, .int (nI (f))), (3, .int (nI (f + n)))] C dX0_sumOfTube_1 (by decide) rfl ?_
  refine g_iload_n 3 C rfl dX0_sumOfTube_3 rfl ?_
  refine g_istore [(5, .int (nI (f))), (4, .int (0)), (0, .ref (h 0)), (1, .int (nI (t))), (2, .int (nI (f))), (3, .int (nI (f + n)))] C dX0_sumOfTube_4 (by decide) rfl ?_
  have loop_6 : ∀ (fu : Nat) (i : Nat), i ≤ n → n + 1 ≤ i + fu → G p l e ({ frames := 1, cells := 0, slots := 6 * 0, locals := 21 } : Room) s m args below meth c D (va_A (wA cI h σ) s.heap.size) 6 0 0 (gQ below D (wA cI h σ) (wA cI h σ) none (some (.int (tubS (σ.2 3) t f n))) 0 args s) (wA cI h σ) [(0, .ref (h 0)), (1, .int (nI (t))), (2, .int (nI (f))), (3, .int (nI (f + n))), (4, .int (tubS (σ.2 3) t f i)), (5, .int (nI (f + i)))] 6 [] := by
    intro fu
    induction fu with
    | zero => intro i hi hf; exact absurd True.intro (by omega)
    | succ fu ih_6 =>
      intro i hi hf
      refine g_iload 5 C rfl dX0_sumOfTube_6 ?_
      refine g_iload_n 3 C rfl dX0_sumOfTube_8 rfl ?_
      refine g_icmp_ge 34 C dX0_sumOfTube_9 (by decide) (fun c_9_1 => ?_) (fun c_9_1 => ?_)
      ·
        have d_9_1 : (f + n) ≤ (f + i) := (nI_leI (a := (f + n)) (b := (f + i)) (by omega) (by omega)).mp c_9_1
        refine g_iload 4 C rfl dX0_sumOfTube_34 ?_
        exact g_iret C hr rfl dX0_sumOfTube_36 (Nat.zero_le _) (Nat.zero_le _) rfl (by rw [show n = i by omega]) rfl
      ·
        have d_9_1 : ¬ (f + n) ≤ (f + i) := fun q => c_9_1 ((nI_leI (a := (f + n)) (b := (f + i)) (by omega) (by omega)).mpr q)
        refine g_iload 4 C rfl dX0_sumOfTube_12 ?_
        refine g_aload_n 0 C rfl dX0_sumOfTube_14 rfl ?_
        refine g_get (C0 := RX0) (T := TX0) (N := 17) 0 0 8 (.ref (h 4)) C hin rfl rfl (by decide) (by decide +kernel) rfl dX0_sumOfTube_15 ?_
        refine g_iload 5 C rfl dX0_sumOfTube_18 ?_
        refine g_iload_n 1 C rfl dX0_sumOfTube_20 rfl ?_
        refine g_callS0 (na := 2) (av := [.int (nI (f + i)), .int (nI (t))]) (c_place l D cI cJ _ (f + i) t) C gX0_sumOfTube_X0_place rfl (by decide +kernel) rfl ⟨Nat.le_of_ble_eq_true rfl, Nat.le_of_ble_eq_true rfl⟩ rfl (Nat.le_of_ble_eq_true rfl) ⟨Nat.zero_le _, Nat.zero_le _⟩ rfl dX0_sumOfTube_21 ?_
        refine g_ialdN (cA := cI) (n := 1284) (a := h 4) (f := σ.2 3) ((f + i) * 12 + t) 4 0 C rfl rfl (by omega) (by decide) dX0_sumOfTube_24 ?_
        refine g_iadd C dX0_sumOfTube_25 ?_
        refine g_istore [(4, .int ((tubS (σ.2 3) t f i) + (σ.2 3 ((f + i) * 12 + t)))), (0, .ref (h 0)), (1, .int (nI (t))), (2, .int (nI (f))), (3, .int (nI (f + n))), (5, .int (nI (f + i)))] C dX0_sumOfTube_26 (by decide) rfl ?_
        refine g_iincN 5 (f + i) 1 [(5, .int (nI ((f + i) + 1))), (4, .int ((tubS (σ.2 3) t f i) + (σ.2 3 ((f + i) * 12 + t)))), (0, .ref (h 0)), (1, .int (nI (t))), (2, .int (nI (f))), (3, .int (nI (f + n)))] C dX0_sumOfTube_28 rfl (by decide) (by decide) rfl ?_
        refine g_goto 6 C dX0_sumOfTube_31 (by decide) ?_
        refine g_lv [2, 3, 4, 5, 1, 0] [(0, .ref (h 0)), (1, .int (nI (t))), (2, .int (nI (f))), (3, .int (nI (f + n))), (4, .int ((tubS (σ.2 3) t f i) + (σ.2 3 ((f + i) * 12 + t)))), (5, .int (nI ((f + i) + 1)))] rfl ?_
        exact ih_6 (i + 1) (by omega) (by omega)
  refine g_lv [2, 3, 4, 5, 1, 0] [(0, .ref (h 0)), (1, .int (nI (t))), (2, .int (nI (f))), (3, .int (nI (f + n))), (4, .int (0)), (5, .int (nI (f)))] rfl ?_
  exact loop_6 (n + 1) 0 (by omega) (by omega)
set_option maxRecDepth 100000 in
set_option maxHeartbeats 4000000 in
theorem c_colourOfTube (l : Launch) (D : va_G) (cI cJ : ClassId) (h : Nat → Nat) (σ : gS) (np nt no ni : Nat) (hI : iA σ np nt no ni) (t ch : Nat) (ht : t < 12) (hc : ch < 3) : MC l yX0_colourOfTube wsX0_colourOfTube 0 0 D (tyIJ cI cJ) [.ref (h 0), .int (nI (t)), .int (nI (ch))] (wA cI h σ) (wA cI h σ) none (some (.int (colT σ t ch))) 0 := by
  have hI0 := hI
  obtain ⟨⟨hnp, hnp6⟩, ⟨hnt, hnt12⟩, ⟨hno, hno10⟩, ⟨hni, hni8⟩, hPT, hLC, hLH⟩ := hI
  refine MC.ofG (cc := cX0_colourOfTube) (maxL := 3) (ret := (some .int)) [(0, .ref (h 0)), (1, .int (nI (t))), (2, .int (nI (ch)))] (by decide) rfl (Nat.le_of_ble_eq_true rfl) rfl ?_
  intro p e s m args below meth c C hr hout
  have hin : ∀ w ∈ wsX00, w ∈ wsX0_colourOfTube := fun w h => by first | exact List.mem_cons_of_mem _ (List.mem_append_right _ h) | exact List.mem_cons_of_mem _ (List.mem_append_left _ (List.mem_append_right _ h)) | exact List.mem_cons_of_mem _ (List.mem_append_left _ (List.mem_append_left _ (List.mem_append_right _ h))) | exact List.mem_cons_of_mem _ (List.mem_append_left _ (List.mem_append_left _ (List.mem_append_left _ (List.mem_append_right _ h)))) | exact List.mem_cons_of_mem _ (List.mem_append_left _ (List.mem_append_left _ (List.mem_append_left _ (List.mem_append_left _ (List.mem_append_right _ h)))))
  refine g_aload_n 0 C rfl dX0_colourOfTube_0 rfl ?_
  refine g_get (C0 := RX0) (T := TX0) (N := 17) 0 0 5 (.ref (h 1)) C hin rfl rfl (by decide) (by decide +kernel) rfl dX0_colourOfTube_1 ?_
  refine g_aload_n 0 C rfl dX0_colourOfTube_4 rfl ?_
  refine g_get (C0 := RX0) (T := TX0) (N := 17) 0 0 6 (.ref (h 2)) C hin rfl rfl (by decide) (by decide +kernel) rfl dX0_colourOfTube_5 ?_
  refine g_iload_n 1 C rfl dX0_colourOfTube_8 rfl ?_
  refine g_ialdN (cA := cI) (n := 12) (a := h 2) (f := σ.2 1) t 2 0 C rfl rfl (by omega) (by decide) dX0_colourOfTube_9 ?_
  obtain ⟨j, hj, ej⟩ := hPT t
  refine g_is (nI j) ej ?_
  refine g_iconst 3 C dX0_colourOfTube_10 (by decide) ?_
  refine g_imulN j 3 C dX0_colourOfTube_11 ?_
  refine g_iload_n 2 C rfl dX0_colourOfTube_12 rfl ?_
  refine g_iaddN (j * 3) ch C dX0_colourOfTube_13 ?_
  refine g_ialdN (cA := cI) (n := 18) (a := h 1) (f := σ.2 0) ((j * 3) + ch) 1 0 C rfl rfl (by omega) (by decide) dX0_colourOfTube_14 ?_
  exact g_iret C hr rfl dX0_colourOfTube_15 (Nat.zero_le _) (Nat.zero_le _) rfl (by rw [colT, ej, cl_nI (by omega)]) rfl
set_option maxRecDepth 100000 in
set_option maxHeartbeats 4000000 in
theorem c_move_no (l : Launch) (D : va_G) (cI cJ : ClassId) (h : Nat → Nat) (σ : gS) (np nt no ni : Nat) (hI : iA σ np nt no ni) (f t : Nat) (g : Int32) (hf1 : f < 107) (ht1 : t < 107) (hlt : rowS (σ.2 3) f nt < g) : MC l yX0_move wsX0_move 2 44 D (tyIJ cI cJ) [.ref (h 0), .int (nI (f)), .int (nI (t)), .int (g)] (wA cI h σ) (wA cI h σ) none (some (.int 0)) 0 := by
  have hI0 := hI
  obtain ⟨⟨hnp, hnp6⟩, ⟨hnt, hnt12⟩, ⟨hno, hno10⟩, ⟨hni, hni8⟩, hPT, hLC, hLH⟩ := hI
  refine MC.ofG (cc := cX0_move) (maxL := 9) (ret := (some .boolean)) [(0, .ref (h 0)), (1, .int (nI (f))), (2, .int (nI (t))), (3, .int (g))] (by decide) rfl (Nat.le_of_ble_eq_true rfl) rfl ?_
  intro p e s m args below meth c C hr hout
  have hin : ∀ w ∈ wsX00, w ∈ wsX0_move := fun w h => by first | exact List.mem_cons_of_mem _ (List.mem_append_right _ h) | exact List.mem_cons_of_mem _ (List.mem_append_left _ (List.mem_append_right _ h)) | exact List.mem_cons_of_mem _ (List.mem_append_left _ (List.mem_append_left _ (List.mem_append_right _ h))) | exact List.mem_cons_of_mem _ (List.mem_append_left _ (List.mem_append_left _ (List.mem_append_left _ (List.mem_append_right _ h)))) | exact List.mem_cons_of_mem _ (List.mem_append_left _ (List.mem_append_left _ (List.mem_append_left _ (List.mem_append_left _ (List.mem_append_right _ h)))))
  refine g_aload_n 0 C rfl dX0_move_0 rfl ?_
  refine g_iload_n 1 C rfl dX0_move_1 rfl ?_
  refine g_callV0 (C0 := RX0) (T := TX0) (N := 17) (ci := 0) (na := 1) (As := [.int (nI (f))]) (c_sumOfRow l D cI cJ h σ np nt no ni hI0 f (by omega)) C gX0_move_X0_sumOfRow rfl (by decide +kernel) rfl ⟨Nat.le_of_ble_eq_true rfl, Nat.le_of_ble_eq_true rfl⟩ rfl rfl rfl (Nat.le_of_ble_eq_true rfl) ⟨Nat.zero_le _, Nat.zero_le _⟩ rfl dX0_move_2 ?_
  refine g_istore [(4, .int (rowS (σ.2 3) f nt)), (0, .ref (h 0)), (1, .int (nI (f))), (2, .int (nI (t))), (3, .int (g))] C dX0_move_5 (by decide) rfl ?_
  refine g_iload 0 C rfl dX0_move_7 ?_
  refine g_iconst 1 C dX0_move_9 (by decide) ?_
  refine g_icmp_lt 19 C dX0_move_10 (by decide) (fun c_10_1 => ?_) (fun c_10_1 => ?_)
  ·
    refine g_iconst 0 C dX0_move_19 (by decide) ?_
    exact g_iret C hr rfl dX0_move_20 (Nat.zero_le _) (Nat.zero_le _) rfl rfl rfl
  ·
    refine g_iload 0 C rfl dX0_move_13 ?_
    refine g_iload_n 4 C rfl dX0_move_15 rfl ?_
    refine g_icmp_ge 21 C dX0_move_16 (by decide) (fun q => absurd q (i32_nle hlt)) (fun _ => ?_)
    refine g_iconst 0 C dX0_move_19 (by decide) ?_
    exact g_iret C hr rfl dX0_move_20 (Nat.zero_le _) (Nat.zero_le _) rfl rfl rfl
set_option maxRecDepth 100000 in
set_option maxHeartbeats 4000000 in
theorem c_move_ok (l : Launch) (D : va_G) (cI cJ : ClassId) (h : Nat → Nat) (σ : gS) (np nt no ni : Nat) (hI : iA σ np nt no ni) (f t : Nat) (g : Int32) (hf1 : f < 107) (ht1 : t < 107) (hg : 1 ≤ g) (hge : ¬ rowS (σ.2 3) f nt < g) : MC l yX0_move wsX0_move 2 44 D (tyIJ cI cJ) [.ref (h 0), .int (nI (f)), .int (nI (t)), .int (g)] (wA cI h σ) (wA cI h (sA σ 3 (mvL (σ.2 3) f t (flw (σ.2 3) f g (rowS (σ.2 3) f nt)) nt))) none (some (.int 1)) 0 := by
  have hI0 := hI
  obtain ⟨⟨hnp, hnp6⟩, ⟨hnt, hnt12⟩, ⟨hno, hno10⟩, ⟨hni, hni8⟩, hPT, hLC, hLH⟩ := hI
  refine MC.ofG (cc := cX0_move) (maxL := 9) (ret := (some .boolean)) [(0, .ref (h 0)), (1, .int (nI (f))), (2, .int (nI (t))), (3, .int (g))] (by decide) rfl (Nat.le_of_ble_eq_true rfl) rfl ?_
  intro p e s m args below meth c C hr hout
  have hin : ∀ w ∈ wsX00, w ∈ wsX0_move := fun w h => by first | exact List.mem_cons_of_mem _ (List.mem_append_right _ h) | exact List.mem_cons_of_mem _ (List.mem_append_left _ (List.mem_append_right _ h)) | exact List.mem_cons_of_mem _ (List.mem_append_left _ (List.mem_append_left _ (List.mem_append_right _ h))) | exact List.mem_cons_of_mem _ (List.mem_append_left _ (List.mem_append_left _ (List.mem_append_left _ (List.mem_append_right _ h)))) | exact List.mem_cons_of_mem _ (List.mem_append_left _ (List.mem_append_left _ (List.mem_append_left _ (List.mem_append_left _ (List.mem_append_right _ h)))))
  refine g_aload_n 0 C rfl dX0_move_0 rfl ?_
  refine g_iload_n 1 C rfl dX0_move_1 rfl ?_
  refine g_callV0 (C0 := RX0) (T := TX0) (N := 17) (ci := 0) (na := 1) (As := [.int (nI (f))]) (c_sumOfRow l D cI cJ h σ np nt no ni hI0 f (by omega)) C gX0_move_X0_sumOfRow rfl (by decide +kernel) rfl ⟨Nat.le_of_ble_eq_true rfl, Nat.le_of_ble_eq_true rfl⟩ rfl rfl rfl (Nat.le_of_ble_eq_true rfl) ⟨Nat.zero_le _, Nat.zero_le _⟩ rfl dX0_move_2 ?_
  refine g_istore [(4, .int (rowS (σ.2 3) f nt)), (0, .ref (h 0)), (1, .int (nI (f))), (2, .int (nI (t))), (3, .int (g))] C dX0_move_5 (by decide) rfl ?_
  refine g_iload 0 C rfl dX0_move_7 ?_
  refine g_iconst 1 C dX0_move_9 (by decide) ?_
  refine g_icmp_lt 19 C dX0_move_10 (by decide) (fun q => absurd q (i32_n1 hg hge)) (fun _ => ?_)
  refine g_iload 0 C rfl dX0_move_13 ?_
  refine g_iload_n 4 C rfl dX0_move_15 rfl ?_
  refine g_icmp_ge 21 C dX0_move_16 (by decide) (fun _ => ?_) (fun q => absurd (i32_ge hge) q)
  refine g_iconst 0 C dX0_move_21 (by decide) ?_
  refine g_istore [(5, .int (0)), (4, .int (rowS (σ.2 3) f nt)), (0, .ref (h 0)), (1, .int (nI (f))), (2, .int (nI (t))), (3, .int (g))] C dX0_move_22 (by decide) rfl ?_
  refine g_iconst 0 C dX0_move_24 (by decide) ?_
  refine g_istore [(6, .int (0)), (5, .int (0)), (4, .int (rowS (σ.2 3) f nt)), (0, .ref (h 0)), (1, .int (nI (f))), (2, .int (nI (t))), (3, .int (g))] C dX0_move_25 (by decide) rfl ?_
  have loop_27 : ∀ (fu : Nat) (i : Nat), i ≤ nt → nt + 1 ≤ i + fu → G p l e ({ frames := 2, cells := 0, slots := 6 * 0, locals := 44 } : Room) s m args below meth c D (va_A (wA cI h σ) s.heap.size) 9 0 0 (gQ below D (wA cI h σ) (wA cI h (sA σ 3 (mvL (σ.2 3) f t (flw (σ.2 3) f g (rowS (σ.2 3) f nt)) nt))) none (some (.int 1)) 0 args s) (wA cI h (sA σ 3 (mvL (σ.2 3) f t (flw (σ.2 3) f g (rowS (σ.2 3) f nt)) i))) [(0, .ref (h 0)), (1, .int (nI (f))), (2, .int (nI (t))), (3, .int (g)), (4, .int (rowS (σ.2 3) f nt)), (5, .int (rowS (σ.2 3) f i)), (6, .int (nI (i)))] 27 [] := by
    intro fu
    induction fu with
    | zero => intro i hi hf; exact absurd True.intro (by omega)
    | succ fu ih_27 =>
      intro i hi hf
      refine g_iload 6 C rfl dX0_move_27 ?_
      refine g_aload_n 0 C rfl dX0_move_29 rfl ?_
      refine g_get (C0 := RX0) (T := TX0) (N := 17) 0 0 1 (.int (σ.1 1)) C hin rfl rfl (by decide) (by decide +kernel) rfl dX0_move_30 ?_
      refine g_is (nI nt) hnt ?_
      refine g_icmp_ge 114 C dX0_move_33 (by decide) (fun c_33_1 => ?_) (fun c_33_1 => ?_)
      ·
        have d_33_1 : nt ≤ i := (nI_leI (a := nt) (b := i) (by omega) (by omega)).mp c_33_1
        refine g_iconst 1 C dX0_move_114 (by decide) ?_
        exact g_iret C hr rfl dX0_move_115 (Nat.zero_le _) (Nat.zero_le _) rfl rfl (by rw [show nt = i by omega])
      ·
        have d_33_1 : ¬ nt ≤ i := fun q => c_33_1 ((nI_leI (a := nt) (b := i) (by omega) (by omega)).mpr q)
        refine g_aload_n 0 C rfl dX0_move_36 rfl ?_
        refine g_get (C0 := RX0) (T := TX0) (N := 17) 0 0 8 (.ref (h 4)) C hin rfl rfl (by decide) (by decide +kernel) rfl dX0_move_37 ?_
        refine g_iload_n 1 C rfl dX0_move_40 rfl ?_
        refine g_iload 6 C rfl dX0_move_41 ?_
        refine g_callS0 (na := 2) (av := [.int (nI (f)), .int (nI (i))]) (c_place l D cI cJ _ f i) C gX0_move_X0_place rfl (by decide +kernel) rfl ⟨Nat.le_of_ble_eq_true rfl, Nat.le_of_ble_eq_true rfl⟩ rfl (Nat.le_of_ble_eq_true rfl) ⟨Nat.zero_le _, Nat.zero_le _⟩ rfl dX0_move_43 ?_
        refine g_ialdN (cA := cI) (n := 1284) (a := h 4) (f := mvL (σ.2 3) f t (flw (σ.2 3) f g (rowS (σ.2 3) f nt)) i) (f * 12 + i) 4 0 C rfl rfl (by omega) (by decide) dX0_move_46 ?_
        refine g_is ((σ.2 3 (f * 12 + i))) (mvL_at _ f t _ i i (Nat.le_refl i) (by omega)) ?_
        refine g_istore [(7, .int (σ.2 3 (f * 12 + i))), (0, .ref (h 0)), (1, .int (nI (f))), (2, .int (nI (t))), (3, .int (g)), (4, .int (rowS (σ.2 3) f nt)), (5, .int (rowS (σ.2 3) f i)), (6, .int (nI (i)))] C dX0_move_47 (by decide) rfl ?_
        refine g_iload 6 C rfl dX0_move_49 ?_
        refine g_iload 0 C rfl dX0_move_51 ?_
        refine g_iadd C dX0_move_53 ?_
        refine g_iload_n 4 C rfl dX0_move_54 rfl ?_
        refine g_imul C dX0_move_55 ?_
        refine g_iload 5 C rfl dX0_move_56 ?_
        refine g_idiv C (i32_n0 hg hge) dX0_move_58 ?_
        refine g_iload 6 C rfl dX0_move_59 ?_
        refine g_iload_n 4 C rfl dX0_move_61 rfl ?_
        refine g_imul C dX0_move_62 ?_
        refine g_iload 5 C rfl dX0_move_63 ?_
        refine g_idiv C (i32_n0 hg hge) dX0_move_65 ?_
        refine g_isub C dX0_move_66 ?_
        refine g_is ((flw (σ.2 3) f g (rowS (σ.2 3) f nt) i)) rfl ?_
        refine g_istore [(8, .int (flw (σ.2 3) f g (rowS (σ.2 3) f nt) i)), (7, .int (σ.2 3 (f * 12 + i))), (0, .ref (h 0)), (1, .int (nI (f))), (2, .int (nI (t))), (3, .int (g)), (4, .int (rowS (σ.2 3) f nt)), (5, .int (rowS (σ.2 3) f i)), (6, .int (nI (i)))] C dX0_move_67 (by decide) rfl ?_
        refine g_aload_n 2 C rfl dX0_move_69 rfl ?_
        refine g_get (C0 := RX0) (T := TX0) (N := 17) 0 0 8 (.ref (h 4)) C hin rfl rfl (by decide) (by decide +kernel) rfl dX0_move_70 ?_
        refine g_iload_n 3 C rfl dX0_move_73 rfl ?_
        refine g_iload 8 C rfl dX0_move_74 ?_
        refine g_callS0 (na := 2) (av := [.int (nI (f)), .int (nI (i))]) (c_place l D cI cJ _ f i) C gX0_move_X0_place rfl (by decide +kernel) rfl ⟨Nat.le_of_ble_eq_true rfl, Nat.le_of_ble_eq_true rfl⟩ rfl (Nat.le_of_ble_eq_true rfl) ⟨Nat.zero_le _, Nat.zero_le _⟩ rfl dX0_move_76 ?_
        refine g_dup2 C dX0_move_79 rfl rfl ?_
        refine g_ialdN (cA := cI) (n := 1284) (a := h 4) (f := mvL (σ.2 3) f t (flw (σ.2 3) f g (rowS (σ.2 3) f nt)) i) (f * 12 + i) 4 0 C rfl rfl (by omega) (by decide) dX0_move_80 ?_
        refine g_iload 0 C rfl dX0_move_81 ?_
        refine g_isub C dX0_move_83 ?_
        refine g_iastN (cA := cI) (n := 1284) (a := h 4) (f := mvL (σ.2 3) f t (flw (σ.2 3) f g (rowS (σ.2 3) f nt)) i) (x := (((mvL (σ.2 3) f t (flw (σ.2 3) f g (rowS (σ.2 3) f nt)) i) (f * 12 + i)) - (flw (σ.2 3) f g (rowS (σ.2 3) f nt) i))) (f * 12 + i) 4 0 (wA cI h (sA σ 3 (upd (mvL (σ.2 3) f t (flw (σ.2 3) f g (rowS (σ.2 3) f nt)) i) (f * 12 + i) ((((mvL (σ.2 3) f t (flw (σ.2 3) f g (rowS (σ.2 3) f nt)) i) (f * 12 + i)) - (flw (σ.2 3) f g (rowS (σ.2 3) f nt) i)))))) C rfl rfl (by omega) (by decide) rfl dX0_move_84 ?_
        refine g_aload_n 2 C rfl dX0_move_85 rfl ?_
        refine g_get (C0 := RX0) (T := TX0) (N := 17) 0 0 8 (.ref (h 4)) C hin rfl rfl (by decide) (by decide +kernel) rfl dX0_move_86 ?_
        refine g_iload_n 4 C rfl dX0_move_89 rfl ?_
        refine g_iload 8 C rfl dX0_move_90 ?_
        refine g_callS0 (na := 2) (av := [.int (nI (t)), .int (nI (i))]) (c_place l D cI cJ _ t i) C gX0_move_X0_place rfl (by decide +kernel) rfl ⟨Nat.le_of_ble_eq_true rfl, Nat.le_of_ble_eq_true rfl⟩ rfl (Nat.le_of_ble_eq_true rfl) ⟨Nat.zero_le _, Nat.zero_le _⟩ rfl dX0_move_92 ?_
        refine g_dup2 C dX0_move_95 rfl rfl ?_
        refine g_ialdN (cA := cI) (n := 1284) (a := h 4) (f := upd (mvL (σ.2 3) f t (flw (σ.2 3) f g (rowS (σ.2 3) f nt)) i) (f * 12 + i) ((((mvL (σ.2 3) f t (flw (σ.2 3) f g (rowS (σ.2 3) f nt)) i) (f * 12 + i)) - (flw (σ.2 3) f g (rowS (σ.2 3) f nt) i)))) (t * 12 + i) 4 0 C rfl rfl (by omega) (by decide) dX0_move_96 ?_
        refine g_iload 0 C rfl dX0_move_97 ?_
        refine g_iadd C dX0_move_99 ?_
        refine g_iastN (cA := cI) (n := 1284) (a := h 4) (f := upd (mvL (σ.2 3) f t (flw (σ.2 3) f g (rowS (σ.2 3) f nt)) i) (f * 12 + i) ((((mvL (σ.2 3) f t (flw (σ.2 3) f g (rowS (σ.2 3) f nt)) i) (f * 12 + i)) - (flw (σ.2 3) f g (rowS (σ.2 3) f nt) i)))) (x := (((upd (mvL (σ.2 3) f t (flw (σ.2 3) f g (rowS (σ.2 3) f nt)) i) (f * 12 + i) ((((mvL (σ.2 3) f t (flw (σ.2 3) f g (rowS (σ.2 3) f nt)) i) (f * 12 + i)) - (flw (σ.2 3) f g (rowS (σ.2 3) f nt) i)))) (t * 12 + i)) + (flw (σ.2 3) f g (rowS (σ.2 3) f nt) i))) (t * 12 + i) 4 0 (wA cI h (sA σ 3 (upd (upd (mvL (σ.2 3) f t (flw (σ.2 3) f g (rowS (σ.2 3) f nt)) i) (f * 12 + i) ((((mvL (σ.2 3) f t (flw (σ.2 3) f g (rowS (σ.2 3) f nt)) i) (f * 12 + i)) - (flw (σ.2 3) f g (rowS (σ.2 3) f nt) i)))) (t * 12 + i) ((((upd (mvL (σ.2 3) f t (flw (σ.2 3) f g (rowS (σ.2 3) f nt)) i) (f * 12 + i) ((((mvL (σ.2 3) f t (flw (σ.2 3) f g (rowS (σ.2 3) f nt)) i) (f * 12 + i)) - (flw (σ.2 3) f g (rowS (σ.2 3) f nt) i)))) (t * 12 + i)) + (flw (σ.2 3) f g (rowS (σ.2 3) f nt) i)))))) C rfl rfl (by omega) (by decide) rfl dX0_move_100 ?_
        refine g_iload 7 C rfl dX0_move_101 ?_
        refine g_iload 1 C rfl dX0_move_103 ?_
        refine g_iadd C dX0_move_105 ?_
        refine g_istore [(5, .int ((rowS (σ.2 3) f i) + (σ.2 3 (f * 12 + i)))), (8, .int (flw (σ.2 3) f g (rowS (σ.2 3) f nt) i)), (7, .int (σ.2 3 (f * 12 + i))), (0, .ref (h 0)), (1, .int (nI (f))), (2, .int (nI (t))), (3, .int (g)), (4, .int (rowS (σ.2 3) f nt)), (6, .int (nI (i)))] C dX0_move_106 (by decide) rfl ?_
        refine g_iincN 8 i 1 [(6, .int (nI (i + 1))), (5, .int ((rowS (σ.2 3) f i) + (σ.2 3 (f * 12 + i)))), (8, .int (flw (σ.2 3) f g (rowS (σ.2 3) f nt) i)), (7, .int (σ.2 3 (f * 12 + i))), (0, .ref (h 0)), (1, .int (nI (f))), (2, .int (nI (t))), (3, .int (g)), (4, .int (rowS (σ.2 3) f nt))] C dX0_move_108 rfl (by decide) (by decide) rfl ?_
        refine g_goto 27 C dX0_move_111 (by decide) ?_
        refine g_lv [4, 5, 6, 7, 8, 1, 0] [(0, .ref (h 0)), (1, .int (nI (f))), (2, .int (nI (t))), (3, .int (g)), (4, .int (rowS (σ.2 3) f nt)), (5, .int ((rowS (σ.2 3) f i) + (σ.2 3 (f * 12 + i)))), (6, .int (nI (i + 1)))] rfl ?_
        exact ih_27 (i + 1) (by omega) (by omega)
  refine g_lv [3, 4, 5, 6, 2, 1, 0] [(0, .ref (h 0)), (1, .int (nI (f))), (2, .int (nI (t))), (3, .int (g)), (4, .int (rowS (σ.2 3) f nt)), (5, .int (0)), (6, .int (0))] rfl ?_
  exact loop_27 (nt + 1) 0 (by omega) (by omega)
set_option maxRecDepth 100000 in
set_option maxHeartbeats 4000000 in
theorem c_waste (l : Launch) (D : va_G) (cI cJ : ClassId) (h : Nat → Nat) (σ : gS) (np nt no ni : Nat) (hI : iA σ np nt no ni) (r : Nat) (hr1 : r < 106) : MC l yX0_waste wsX0_waste 1 21 D (tyIJ cI cJ) [.ref (h 0), .int (nI (r))] (wA cI h σ) (wA cI h (sA σ 3 (wzL (σ.2 3) r nt))) none (some (.int (rowS (σ.2 3) r nt))) 0 := by
  have hI0 := hI
  obtain ⟨⟨hnp, hnp6⟩, ⟨hnt, hnt12⟩, ⟨hno, hno10⟩, ⟨hni, hni8⟩, hPT, hLC, hLH⟩ := hI
  refine MC.ofG (cc := cX0_waste) (maxL := 5) (ret := (some .int)) [(0, .ref (h 0)), (1, .int (nI (r)))] (by decide) rfl (Nat.le_of_ble_eq_true rfl) rfl ?_
  intro p e s m args below meth c C hr hout
  have hin : ∀ w ∈ wsX00, w ∈ wsX0_waste := fun w h => by first | exact List.mem_cons_of_mem _ (List.mem_append_right _ h) | exact List.mem_cons_of_mem _ (List.mem_append_left _ (List.mem_append_right _ h)) | exact List.mem_cons_of_mem _ (List.mem_append_left _ (List.mem_append_left _ (List.mem_append_right _ h))) | exact List.mem_cons_of_mem _ (List.mem_append_left _ (List.mem_append_left _ (List.mem_append_left _ (List.mem_append_right _ h)))) | exact List.mem_cons_of_mem _ (List.mem_append_left _ (List.mem_append_left _ (List.mem_append_left _ (List.mem_append_left _ (List.mem_append_right _ h)))))
  refine g_iconst 0 C dX0_waste_0 (by decide) ?_
  refine g_istore_n [(2, .int (0)), (0, .ref (h 0)), (1, .int (nI (r)))] C dX0_waste_1 rfl (by decide) rfl ?_
  refine g_iconst 0 C dX0_waste_2 (by decide) ?_
  refine g_istore_n [(3, .int (0)), (2, .int (0)), (0, .ref (h 0)), (1, .int (nI (r)))] C dX0_waste_3 rfl (by decide) rfl ?_
  have loop_4 : ∀ (fu : Nat) (i : Nat), i ≤ nt → nt + 1 ≤ i + fu → G p l e ({ frames := 1, cells := 0, slots := 6 * 0, locals := 21 } : Room) s m args below meth c D (va_A (wA cI h σ) s.heap.size) 5 0 0 (gQ below D (wA cI h σ) (wA cI h (sA σ 3 (wzL (σ.2 3) r nt))) none (some (.int (rowS (σ.2 3) r nt))) 0 args s) (wA cI h (sA σ 3 (wzL (σ.2 3) r i))) [(0, .ref (h 0)), (1, .int (nI (r))), (2, .int (rowS (σ.2 3) r i)), (3, .int (nI (i)))] 4 [] := by
    intro fu
    induction fu with
    | zero => intro i hi hf; exact absurd True.intro (by omega)
    | succ fu ih_4 =>
      intro i hi hf
      refine g_iload_n 3 C rfl dX0_waste_4 rfl ?_
      refine g_aload_n 0 C rfl dX0_waste_5 rfl ?_
      refine g_get (C0 := RX0) (T := TX0) (N := 17) 0 0 1 (.int (σ.1 1)) C hin rfl rfl (by decide) (by decide +kernel) rfl dX0_waste_6 ?_
      refine g_is (nI nt) hnt ?_
      refine g_icmp_ge 62 C dX0_waste_9 (by decide) (fun c_9_1 => ?_) (fun c_9_1 => ?_)
      ·
        have d_9_1 : nt ≤ i := (nI_leI (a := nt) (b := i) (by omega) (by omega)).mp c_9_1
        refine g_iload_n 2 C rfl dX0_waste_62 rfl ?_
        exact g_iret C hr rfl dX0_waste_63 (Nat.zero_le _) (Nat.zero_le _) rfl (by rw [show nt = i by omega]) (by rw [show nt = i by omega])
      ·
        have d_9_1 : ¬ nt ≤ i := fun q => c_9_1 ((nI_leI (a := nt) (b := i) (by omega) (by omega)).mpr q)
        refine g_aload_n 0 C rfl dX0_waste_12 rfl ?_
        refine g_get (C0 := RX0) (T := TX0) (N := 17) 0 0 8 (.ref (h 4)) C hin rfl rfl (by decide) (by decide +kernel) rfl dX0_waste_13 ?_
        refine g_iload_n 1 C rfl dX0_waste_16 rfl ?_
        refine g_iload_n 3 C rfl dX0_waste_17 rfl ?_
        refine g_callS0 (na := 2) (av := [.int (nI (r)), .int (nI (i))]) (c_place l D cI cJ _ r i) C gX0_waste_X0_place rfl (by decide +kernel) rfl ⟨Nat.le_of_ble_eq_true rfl, Nat.le_of_ble_eq_true rfl⟩ rfl (Nat.le_of_ble_eq_true rfl) ⟨Nat.zero_le _, Nat.zero_le _⟩ rfl dX0_waste_18 ?_
        refine g_ialdN (cA := cI) (n := 1284) (a := h 4) (f := wzL (σ.2 3) r i) (r * 12 + i) 4 0 C rfl rfl (by omega) (by decide) dX0_waste_21 ?_
        refine g_is ((σ.2 3 (r * 12 + i))) (wzL_at _ r i i (Nat.le_refl i) (by omega) hr1) ?_
        refine g_istore [(4, .int (σ.2 3 (r * 12 + i))), (0, .ref (h 0)), (1, .int (nI (r))), (2, .int (rowS (σ.2 3) r i)), (3, .int (nI (i)))] C dX0_waste_22 (by decide) rfl ?_
        refine g_aload_n 1 C rfl dX0_waste_24 rfl ?_
        refine g_get (C0 := RX0) (T := TX0) (N := 17) 0 0 8 (.ref (h 4)) C hin rfl rfl (by decide) (by decide +kernel) rfl dX0_waste_25 ?_
        refine g_iload_n 2 C rfl dX0_waste_28 rfl ?_
        refine g_iload_n 4 C rfl dX0_waste_29 rfl ?_
        refine g_callS0 (na := 2) (av := [.int (nI (r)), .int (nI (i))]) (c_place l D cI cJ _ r i) C gX0_waste_X0_place rfl (by decide +kernel) rfl ⟨Nat.le_of_ble_eq_true rfl, Nat.le_of_ble_eq_true rfl⟩ rfl (Nat.le_of_ble_eq_true rfl) ⟨Nat.zero_le _, Nat.zero_le _⟩ rfl dX0_waste_30 ?_
        refine g_iconst 0 C dX0_waste_33 (by decide) ?_
        refine g_iastN (cA := cI) (n := 1284) (a := h 4) (f := wzL (σ.2 3) r i) (x := 0) (r * 12 + i) 4 0 (wA cI h (sA σ 3 (upd (wzL (σ.2 3) r i) (r * 12 + i) (0)))) C rfl rfl (by omega) (by decide) rfl dX0_waste_34 ?_
        refine g_aload_n 1 C rfl dX0_waste_35 rfl ?_
        refine g_get (C0 := RX0) (T := TX0) (N := 17) 0 0 8 (.ref (h 4)) C hin rfl rfl (by decide) (by decide +kernel) rfl dX0_waste_36 ?_
        refine g_bipush 106 C dX0_waste_39 (by decide) ?_
        refine g_iload_n 4 C rfl dX0_waste_41 rfl ?_
        refine g_callS0 (na := 2) (av := [.int (106), .int (nI (i))]) (c_place l D cI cJ _ 106 i) C gX0_waste_X0_place rfl (by decide +kernel) rfl ⟨Nat.le_of_ble_eq_true rfl, Nat.le_of_ble_eq_true rfl⟩ rfl (Nat.le_of_ble_eq_true rfl) ⟨Nat.zero_le _, Nat.zero_le _⟩ rfl dX0_waste_42 ?_
        refine g_dup2 C dX0_waste_45 rfl rfl ?_
        refine g_ialdN (cA := cI) (n := 1284) (a := h 4) (f := upd (wzL (σ.2 3) r i) (r * 12 + i) (0)) (106 * 12 + i) 4 0 C rfl rfl (by omega) (by decide) dX0_waste_46 ?_
        refine g_iload 0 C rfl dX0_waste_47 ?_
        refine g_iadd C dX0_waste_49 ?_
        refine g_iastN (cA := cI) (n := 1284) (a := h 4) (f := upd (wzL (σ.2 3) r i) (r * 12 + i) (0)) (x := (((upd (wzL (σ.2 3) r i) (r * 12 + i) (0)) (106 * 12 + i)) + (σ.2 3 (r * 12 + i)))) (106 * 12 + i) 4 0 (wA cI h (sA σ 3 (upd (upd (wzL (σ.2 3) r i) (r * 12 + i) (0)) (106 * 12 + i) ((((upd (wzL (σ.2 3) r i) (r * 12 + i) (0)) (106 * 12 + i)) + (σ.2 3 (r * 12 + i))))))) C rfl rfl (by omega) (by decide) rfl dX0_waste_50 ?_
        refine g_iload_n 3 C rfl dX0_waste_51 rfl ?_
        refine g_iload 0 C rfl dX0_waste_52 ?_
        refine g_iadd C dX0_waste_54 ?_
        refine g_istore_n [(2, .int ((rowS (σ.2 3) r i) + (σ.2 3 (r * 12 + i)))), (4, .int (σ.2 3 (r * 12 + i))), (0, .ref (h 0)), (1, .int (nI (r))), (3, .int (nI (i)))] C dX0_waste_55 rfl (by decide) rfl ?_
        refine g_iincN 4 i 1 [(3, .int (nI (i + 1))), (2, .int ((rowS (σ.2 3) r i) + (σ.2 3 (r * 12 + i)))), (4, .int (σ.2 3 (r * 12 + i))), (0, .ref (h 0)), (1, .int (nI (r)))] C dX0_waste_56 rfl (by decide) (by decide) rfl ?_
        refine g_goto 4 C dX0_waste_59 (by decide) ?_
        refine g_lv [3, 4, 1, 0] [(0, .ref (h 0)), (1, .int (nI (r))), (2, .int ((rowS (σ.2 3) r i) + (σ.2 3 (r * 12 + i)))), (3, .int (nI (i + 1)))] rfl ?_
        exact ih_4 (i + 1) (by omega) (by omega)
  refine g_lv [2, 3, 1, 0] [(0, .ref (h 0)), (1, .int (nI (r))), (2, .int (0)), (3, .int (0))] rfl ?_
  exact loop_4 (nt + 1) 0 (by omega) (by omega)
set_option maxRecDepth 100000 in
set_option maxHeartbeats 4000000 in
theorem c_colourOfRow (l : Launch) (D : va_G) (cI cJ : ClassId) (h : Nat → Nat) (σ : gS) (np nt no ni : Nat) (hI : iA σ np nt no ni) (r ch : Nat) (hr1 : r < 107) (hc : ch < 3) : MC l yX0_colourOfRow wsX0_colourOfRow 1 22 D (tyIJ cI cJ) [.ref (h 0), .int (nI (r)), .int (nI (ch))] (wA cI h σ) (wA cI h σ) none (some (.int (colR σ nt r ch))) 0 := by
  have hI0 := hI
  obtain ⟨⟨hnp, hnp6⟩, ⟨hnt, hnt12⟩, ⟨hno, hno10⟩, ⟨hni, hni8⟩, hPT, hLC, hLH⟩ := hI
  refine MC.ofG (cc := cX0_colourOfRow) (maxL := 7) (ret := (some .int)) [(0, .ref (h 0)), (1, .int (nI (r))), (2, .int (nI (ch)))] (by decide) rfl (Nat.le_of_ble_eq_true rfl) rfl ?_
  intro p e s m args below meth c C hr hout
  have hin : ∀ w ∈ wsX00, w ∈ wsX0_colourOfRow := fun w h => by first | exact List.mem_cons_of_mem _ (List.mem_append_right _ h) | exact List.mem_cons_of_mem _ (List.mem_append_left _ (List.mem_append_right _ h)) | exact List.mem_cons_of_mem _ (List.mem_append_left _ (List.mem_append_left _ (List.mem_append_right _ h))) | exact List.mem_cons_of_mem _ (List.mem_append_left _ (List.mem_append_left _ (List.mem_append_left _ (List.mem_append_right _ h)))) | exact List.mem_cons_of_mem _ (List.mem_append_left _ (List.mem_append_left _ (List.mem_append_left _ (List.mem_append_left _ (List.mem_append_right _ h)))))
  refine g_iconst 0 C dX0_colourOfRow_0 (by decide) ?_
  refine g_istore_n [(3, .int (0)), (0, .ref (h 0)), (1, .int (nI (r))), (2, .int (nI (ch)))] C dX0_colourOfRow_1 rfl (by decide) rfl ?_
  refine g_iconst 0 C dX0_colourOfRow_2 (by decide) ?_
  refine g_istore [(4, .int (0)), (3, .int (0)), (0, .ref (h 0)), (1, .int (nI (r))), (2, .int (nI (ch)))] C dX0_colourOfRow_3 (by decide) rfl ?_
  refine g_iconst 0 C dX0_colourOfRow_5 (by decide) ?_
  refine g_istore [(5, .int (0)), (4, .int (0)), (3, .int (0)), (0, .ref (h 0)), (1, .int (nI (r))), (2, .int (nI (ch)))] C dX0_colourOfRow_6 (by decide) rfl ?_
  have loop_8 : ∀ (fu : Nat) (i : Nat), i ≤ nt → nt + 1 ≤ i + fu → G p l e ({ frames := 1, cells := 0, slots := 6 * 0, locals := 22 } : Room) s m args below meth c D (va_A (wA cI h σ) s.heap.size) 7 0 0 (gQ below D (wA cI h σ) (wA cI h σ) none (some (.int (colR σ nt r ch))) 0 args s) (wA cI h σ) [(0, .ref (h 0)), (1, .int (nI (r))), (2, .int (nI (ch))), (3, .int (rowS (σ.2 3) r i)), (4, .int (isum (fun t => σ.2 3 (r * 12 + t) * colT σ t ch) i)), (5, .int (nI (i)))] 8 [] := by
    intro fu
    induction fu with
    | zero => intro i hi hf; exact absurd True.intro (by omega)
    | succ fu ih_8 =>
      intro i hi hf
      refine g_iload 5 C rfl dX0_colourOfRow_8 ?_
      refine g_aload_n 0 C rfl dX0_colourOfRow_10 rfl ?_
      refine g_get (C0 := RX0) (T := TX0) (N := 17) 0 0 1 (.int (σ.1 1)) C hin rfl rfl (by decide) (by decide +kernel) rfl dX0_colourOfRow_11 ?_
      refine g_is (nI nt) hnt ?_
      refine g_icmp_ge 56 C dX0_colourOfRow_14 (by decide) (fun c_14_1 => ?_) (fun c_14_1 => ?_)
      ·
        have d_14_1 : nt ≤ i := (nI_leI (a := nt) (b := i) (by omega) (by omega)).mp c_14_1
        refine g_iload_n 3 C rfl dX0_colourOfRow_56 rfl ?_
        refine g_if_ne 64 C dX0_colourOfRow_57 (by decide) (fun c_57_2 => ?_) (fun c_57_2 => ?_)
        ·
          have cz := c_57_2
          refine g_iload 4 C rfl dX0_colourOfRow_64 ?_
          refine g_iload_n 3 C rfl dX0_colourOfRow_66 rfl ?_
          refine g_idiv C cz dX0_colourOfRow_67 ?_
          exact g_iret C hr rfl dX0_colourOfRow_68 (Nat.zero_le _) (Nat.zero_le _) rfl (congrArg (fun x => some (Value.int x)) (by have e : nt = i := (by omega); subst e; rw [colR, if_neg cz])) rfl
        ·
          have cz := c_57_2
          refine g_iconst (-1) C dX0_colourOfRow_60 (by decide) ?_
          refine g_goto 68 C dX0_colourOfRow_61 (by decide) ?_
          exact g_iret C hr rfl dX0_colourOfRow_68 (Nat.zero_le _) (Nat.zero_le _) rfl (congrArg (fun x => some (Value.int x)) (by have e : nt = i := (by omega); subst e; rw [colR, if_pos cz])) rfl
      ·
        have d_14_1 : ¬ nt ≤ i := fun q => c_14_1 ((nI_leI (a := nt) (b := i) (by omega) (by omega)).mpr q)
        refine g_aload_n 0 C rfl dX0_colourOfRow_17 rfl ?_
        refine g_get (C0 := RX0) (T := TX0) (N := 17) 0 0 8 (.ref (h 4)) C hin rfl rfl (by decide) (by decide +kernel) rfl dX0_colourOfRow_18 ?_
        refine g_iload_n 1 C rfl dX0_colourOfRow_21 rfl ?_
        refine g_iload 5 C rfl dX0_colourOfRow_22 ?_
        refine g_callS0 (na := 2) (av := [.int (nI (r)), .int (nI (i))]) (c_place l D cI cJ _ r i) C gX0_colourOfRow_X0_place rfl (by decide +kernel) rfl ⟨Nat.le_of_ble_eq_true rfl, Nat.le_of_ble_eq_true rfl⟩ rfl (Nat.le_of_ble_eq_true rfl) ⟨Nat.zero_le _, Nat.zero_le _⟩ rfl dX0_colourOfRow_24 ?_
        refine g_ialdN (cA := cI) (n := 1284) (a := h 4) (f := σ.2 3) (r * 12 + i) 4 0 C rfl rfl (by omega) (by decide) dX0_colourOfRow_27 ?_
        refine g_istore [(6, .int (σ.2 3 (r * 12 + i))), (0, .ref (h 0)), (1, .int (nI (r))), (2, .int (nI (ch))), (3, .int (rowS (σ.2 3) r i)), (4, .int (isum (fun t => σ.2 3 (r * 12 + t) * colT σ t ch) i)), (5, .int (nI (i)))] C dX0_colourOfRow_28 (by decide) rfl ?_
        refine g_iload_n 4 C rfl dX0_colourOfRow_30 rfl ?_
        refine g_iload 0 C rfl dX0_colourOfRow_31 ?_
        refine g_iadd C dX0_colourOfRow_33 ?_
        refine g_istore_n [(3, .int ((rowS (σ.2 3) r i) + (σ.2 3 (r * 12 + i)))), (6, .int (σ.2 3 (r * 12 + i))), (0, .ref (h 0)), (1, .int (nI (r))), (2, .int (nI (ch))), (4, .int (isum (fun t => σ.2 3 (r * 12 + t) * colT σ t ch) i)), (5, .int (nI (i)))] C dX0_colourOfRow_34 rfl (by decide) rfl ?_
        refine g_iload 5 C rfl dX0_colourOfRow_35 ?_
        refine g_iload 1 C rfl dX0_colourOfRow_37 ?_
        refine g_aload_n 2 C rfl dX0_colourOfRow_39 rfl ?_
        refine g_iload 6 C rfl dX0_colourOfRow_40 ?_
        refine g_iload_n 4 C rfl dX0_colourOfRow_42 rfl ?_
        refine g_callV0 (C0 := RX0) (T := TX0) (N := 17) (ci := 0) (na := 2) (As := [.int (nI (i)), .int (nI (ch))]) (c_colourOfTube l D cI cJ h σ np nt no ni hI0 i ch (by omega) (by omega)) C gX0_colourOfRow_X0_colourOfTube rfl (by decide +kernel) rfl ⟨Nat.le_of_ble_eq_true rfl, Nat.le_of_ble_eq_true rfl⟩ rfl rfl rfl (Nat.le_of_ble_eq_true rfl) ⟨Nat.zero_le _, Nat.zero_le _⟩ rfl dX0_colourOfRow_43 ?_
        refine g_imul C dX0_colourOfRow_46 ?_
        refine g_iadd C dX0_colourOfRow_47 ?_
        refine g_istore [(4, .int ((isum (fun t => σ.2 3 (r * 12 + t) * colT σ t ch) i) + ((σ.2 3 (r * 12 + i)) * (colT σ i ch)))), (3, .int ((rowS (σ.2 3) r i) + (σ.2 3 (r * 12 + i)))), (6, .int (σ.2 3 (r * 12 + i))), (0, .ref (h 0)), (1, .int (nI (r))), (2, .int (nI (ch))), (5, .int (nI (i)))] C dX0_colourOfRow_48 (by decide) rfl ?_
        refine g_iincN 6 i 1 [(5, .int (nI (i + 1))), (4, .int ((isum (fun t => σ.2 3 (r * 12 + t) * colT σ t ch) i) + ((σ.2 3 (r * 12 + i)) * (colT σ i ch)))), (3, .int ((rowS (σ.2 3) r i) + (σ.2 3 (r * 12 + i)))), (6, .int (σ.2 3 (r * 12 + i))), (0, .ref (h 0)), (1, .int (nI (r))), (2, .int (nI (ch)))] C dX0_colourOfRow_50 rfl (by decide) (by decide) rfl ?_
        refine g_goto 8 C dX0_colourOfRow_53 (by decide) ?_
        refine g_lv [4, 5, 6, 2, 1, 0] [(0, .ref (h 0)), (1, .int (nI (r))), (2, .int (nI (ch))), (3, .int ((rowS (σ.2 3) r i) + (σ.2 3 (r * 12 + i)))), (4, .int ((isum (fun t => σ.2 3 (r * 12 + t) * colT σ t ch) i) + ((σ.2 3 (r * 12 + i)) * (colT σ i ch)))), (5, .int (nI (i + 1)))] rfl ?_
        exact ih_8 (i + 1) (by omega) (by omega)
  refine g_lv [3, 4, 5, 2, 1, 0] [(0, .ref (h 0)), (1, .int (nI (r))), (2, .int (nI (ch))), (3, .int (0)), (4, .int (0)), (5, .int (0))] rfl ?_
  exact loop_8 (nt + 1) 0 (by omega) (by omega)
set_option maxRecDepth 100000 in
set_option maxHeartbeats 4000000 in
theorem c_gramsOfPigment (l : Launch) (D : va_G) (cI cJ : ClassId) (h : Nat → Nat) (σ : gS) (np nt no ni : Nat) (hI : iA σ np nt no ni) (r : Nat) (k : Int32) (hr1 : r < 107) : MC l yX0_gramsOfPigment wsX0_gramsOfPigment 1 21 D (tyIJ cI cJ) [.ref (h 0), .int (nI (r)), .int (k)] (wA cI h σ) (wA cI h σ) none (some (.int (gopN σ r k nt))) 0 := by
  have hI0 := hI
  obtain ⟨⟨hnp, hnp6⟩, ⟨hnt, hnt12⟩, ⟨hno, hno10⟩, ⟨hni, hni8⟩, hPT, hLC, hLH⟩ := hI
  refine MC.ofG (cc := cX0_gramsOfPigment) (maxL := 5) (ret := (some .int)) [(0, .ref (h 0)), (1, .int (nI (r))), (2, .int (k))] (by decide) rfl (Nat.le_of_ble_eq_true rfl) rfl ?_
  intro p e s m args below meth c C hr hout
  have hin : ∀ w ∈ wsX00, w ∈ wsX0_gramsOfPigment := fun w h => by first | exact List.mem_cons_of_mem _ (List.mem_append_right _ h) | exact List.mem_cons_of_mem _ (List.mem_append_left _ (List.mem_append_right _ h)) | exact List.mem_cons_of_mem _ (List.mem_append_left _ (List.mem_append_left _ (List.mem_append_right _ h))) | exact List.mem_cons_of_mem _ (List.mem_append_left _ (List.mem_append_left _ (List.mem_append_left _ (List.mem_append_right _ h)))) | exact List.mem_cons_of_mem _ (List.mem_append_left _ (List.mem_append_left _ (List.mem_append_left _ (List.mem_append_left _ (List.mem_append_right _ h)))))
  refine g_iconst 0 C dX0_gramsOfPigment_0 (by decide) ?_
  refine g_istore_n [(3, .int (0)), (0, .ref (h 0)), (1, .int (nI (r))), (2, .int (k))] C dX0_gramsOfPigment_1 rfl (by decide) rfl ?_
  refine g_iconst 0 C dX0_gramsOfPigment_2 (by decide) ?_
  refine g_istore [(4, .int (0)), (3, .int (0)), (0, .ref (h 0)), (1, .int (nI (r))), (2, .int (k))] C dX0_gramsOfPigment_3 (by decide) rfl ?_
  have loop_5 : ∀ (fu : Nat) (i : Nat), i ≤ nt → nt + 1 ≤ i + fu → G p l e ({ frames := 1, cells := 0, slots := 6 * 0, locals := 21 } : Room) s m args below meth c D (va_A (wA cI h σ) s.heap.size) 5 0 0 (gQ below D (wA cI h σ) (wA cI h σ) none (some (.int (gopN σ r k nt))) 0 args s) (wA cI h σ) [(0, .ref (h 0)), (1, .int (nI (r))), (2, .int (k)), (3, .int (gopN σ r k i)), (4, .int (nI (i)))] 5 [] := by
    intro fu
    induction fu with
    | zero => intro i hi hf; exact absurd True.intro (by omega)
    | succ fu ih_5 =>
      intro i hi hf
      refine g_iload 4 C rfl dX0_gramsOfPigment_5 ?_
      refine g_aload_n 0 C rfl dX0_gramsOfPigment_7 rfl ?_
      refine g_get (C0 := RX0) (T := TX0) (N := 17) 0 0 1 (.int (σ.1 1)) C hin rfl rfl (by decide) (by decide +kernel) rfl dX0_gramsOfPigment_8 ?_
      refine g_is (nI nt) hnt ?_
      refine g_icmp_ge 45 C dX0_gramsOfPigment_11 (by decide) (fun c_11_1 => ?_) (fun c_11_1 => ?_)
      ·
        have d_11_1 : nt ≤ i := (nI_leI (a := nt) (b := i) (by omega) (by omega)).mp c_11_1
        refine g_iload_n 3 C rfl dX0_gramsOfPigment_45 rfl ?_
        exact g_iret C hr rfl dX0_gramsOfPigment_46 (Nat.zero_le _) (Nat.zero_le _) rfl (by rw [show nt = i by omega]) rfl
      ·
        have d_11_1 : ¬ nt ≤ i := fun q => c_11_1 ((nI_leI (a := nt) (b := i) (by omega) (by omega)).mpr q)
        refine g_aload_n 0 C rfl dX0_gramsOfPigment_14 rfl ?_
        refine g_get (C0 := RX0) (T := TX0) (N := 17) 0 0 6 (.ref (h 2)) C hin rfl rfl (by decide) (by decide +kernel) rfl dX0_gramsOfPigment_15 ?_
        refine g_iload 4 C rfl dX0_gramsOfPigment_18 ?_
        refine g_ialdN (cA := cI) (n := 12) (a := h 2) (f := σ.2 1) i 2 0 C rfl rfl (by omega) (by decide) dX0_gramsOfPigment_20 ?_
        refine g_iload_n 2 C rfl dX0_gramsOfPigment_21 rfl ?_
        refine g_icmp_ne 39 C dX0_gramsOfPigment_22 (by decide) (fun c_22_2 => ?_) (fun c_22_2 => ?_)
        ·
          have ek : gopN σ r k (i + 1) = gopN σ r k i := if_neg c_22_2
          refine g_iincN 4 i 1 [(4, .int (nI (i + 1))), (0, .ref (h 0)), (1, .int (nI (r))), (2, .int (k)), (3, .int (gopN σ r k i))] C dX0_gramsOfPigment_39 rfl (by decide) (by decide) rfl ?_
          refine g_goto 5 C dX0_gramsOfPigment_42 (by decide) ?_
          refine g_lv [1, 2, 3, 4, 0] [(0, .ref (h 0)), (1, .int (nI (r))), (2, .int (k)), (3, .int (gopN σ r k i)), (4, .int (nI (i + 1)))] rfl ?_
          have hx := ih_5 (i + 1) (by omega) (by omega)
          rw [ek] at hx
          exact hx
        ·
          have ek : gopN σ r k (i + 1) = gopN σ r k i + σ.2 3 (r * 12 + i) := if_pos c_22_2
          refine g_iload_n 3 C rfl dX0_gramsOfPigment_25 rfl ?_
          refine g_aload_n 0 C rfl dX0_gramsOfPigment_26 rfl ?_
          refine g_get (C0 := RX0) (T := TX0) (N := 17) 0 0 8 (.ref (h 4)) C hin rfl rfl (by decide) (by decide +kernel) rfl dX0_gramsOfPigment_27 ?_
          refine g_iload_n 1 C rfl dX0_gramsOfPigment_30 rfl ?_
          refine g_iload 4 C rfl dX0_gramsOfPigment_31 ?_
          refine g_callS0 (na := 2) (av := [.int (nI (r)), .int (nI (i))]) (c_place l D cI cJ _ r i) C gX0_gramsOfPigment_X0_place rfl (by decide +kernel) rfl ⟨Nat.le_of_ble_eq_true rfl, Nat.le_of_ble_eq_true rfl⟩ rfl (Nat.le_of_ble_eq_true rfl) ⟨Nat.zero_le _, Nat.zero_le _⟩ rfl dX0_gramsOfPigment_33 ?_
          refine g_ialdN (cA := cI) (n := 1284) (a := h 4) (f := σ.2 3) (r * 12 + i) 4 0 C rfl rfl (by omega) (by decide) dX0_gramsOfPigment_36 ?_
          refine g_iadd C dX0_gramsOfPigment_37 ?_
          refine g_istore_n [(3, .int ((gopN σ r k i) + (σ.2 3 (r * 12 + i)))), (0, .ref (h 0)), (1, .int (nI (r))), (2, .int (k)), (4, .int (nI (i)))] C dX0_gramsOfPigment_38 rfl (by decide) rfl ?_
          refine g_iincN 4 i 1 [(4, .int (nI (i + 1))), (3, .int ((gopN σ r k i) + (σ.2 3 (r * 12 + i)))), (0, .ref (h 0)), (1, .int (nI (r))), (2, .int (k))] C dX0_gramsOfPigment_39 rfl (by decide) (by decide) rfl ?_
          refine g_goto 5 C dX0_gramsOfPigment_42 (by decide) ?_
          refine g_lv [2, 3, 4, 1, 0] [(0, .ref (h 0)), (1, .int (nI (r))), (2, .int (k)), (3, .int ((gopN σ r k i) + (σ.2 3 (r * 12 + i)))), (4, .int (nI (i + 1)))] rfl ?_
          have hx := ih_5 (i + 1) (by omega) (by omega)
          rw [ek] at hx
          exact hx
  refine g_lv [2, 3, 4, 1, 0] [(0, .ref (h 0)), (1, .int (nI (r))), (2, .int (k)), (3, .int (0)), (4, .int (0))] rfl ?_
  exact loop_5 (nt + 1) 0 (by omega) (by omega)
set_option maxRecDepth 100000 in
set_option maxHeartbeats 4000000 in
theorem c_mainPigmentOfRow (l : Launch) (D : va_G) (cI cJ : ClassId) (h : Nat → Nat) (σ : gS) (np nt no ni : Nat) (hI : iA σ np nt no ni) (r : Nat) (hr1 : r < 107) : MC l yX0_mainPigmentOfRow wsX0_mainPigmentOfRow 2 45 D (tyIJ cI cJ) [.ref (h 0), .int (nI (r))] (wA cI h σ) (wA cI h σ) none (some (.int (mpr (fun k => gopN σ r (nI k) nt) np).1)) 0 := by
  have hI0 := hI
  obtain ⟨⟨hnp, hnp6⟩, ⟨hnt, hnt12⟩, ⟨hno, hno10⟩, ⟨hni, hni8⟩, hPT, hLC, hLH⟩ := hI
  refine MC.ofG (cc := cX0_mainPigmentOfRow) (maxL := 6) (ret := (some .int)) [(0, .ref (h 0)), (1, .int (nI (r)))] (by decide) rfl (Nat.le_of_ble_eq_true rfl) rfl ?_
  intro p e s m args below meth c C hr hout
  have hin : ∀ w ∈ wsX00, w ∈ wsX0_mainPigmentOfRow := fun w h => by first | exact List.mem_cons_of_mem _ (List.mem_append_right _ h) | exact List.mem_cons_of_mem _ (List.mem_append_left _ (List.mem_append_right _ h)) | exact List.mem_cons_of_mem _ (List.mem_append_left _ (List.mem_append_left _ (List.mem_append_right _ h))) | exact List.mem_cons_of_mem _ (List.mem_append_left _ (List.mem_append_left _ (List.mem_append_left _ (List.mem_append_right _ h)))) | exact List.mem_cons_of_mem _ (List.mem_append_left _ (List.mem_append_left _ (List.mem_append_left _ (List.mem_append_left _ (List.mem_append_right _ h)))))
  refine g_iconst (-1) C dX0_mainPigmentOfRow_0 (by decide) ?_
  refine g_istore_n [(2, .int ((-1))), (0, .ref (h 0)), (1, .int (nI (r)))] C dX0_mainPigmentOfRow_1 rfl (by decide) rfl ?_
  refine g_iconst 0 C dX0_mainPigmentOfRow_2 (by decide) ?_
  refine g_istore_n [(3, .int (0)), (2, .int ((-1))), (0, .ref (h 0)), (1, .int (nI (r)))] C dX0_mainPigmentOfRow_3 rfl (by decide) rfl ?_
  refine g_iconst 0 C dX0_mainPigmentOfRow_4 (by decide) ?_
  refine g_istore [(4, .int (0)), (3, .int (0)), (2, .int ((-1))), (0, .ref (h 0)), (1, .int (nI (r)))] C dX0_mainPigmentOfRow_5 (by decide) rfl ?_
  have loop_7 : ∀ (fu : Nat) (i : Nat), i ≤ np → np + 1 ≤ i + fu → G p l e ({ frames := 2, cells := 0, slots := 6 * 0, locals := 45 } : Room) s m args below meth c D (va_A (wA cI h σ) s.heap.size) 6 0 0 (gQ below D (wA cI h σ) (wA cI h σ) none (some (.int (mpr (fun k => gopN σ r (nI k) nt) np).1)) 0 args s) (wA cI h σ) [(0, .ref (h 0)), (1, .int (nI (r))), (2, .int ((mpr (fun k => gopN σ r (nI k) nt) i).1)), (3, .int ((mpr (fun k => gopN σ r (nI k) nt) i).2)), (4, .int (nI (i)))] 7 [] := by
    intro fu
    induction fu with
    | zero => intro i hi hf; exact absurd True.intro (by omega)
    | succ fu ih_7 =>
      intro i hi hf
      refine g_iload 4 C rfl dX0_mainPigmentOfRow_7 ?_
      refine g_aload_n 0 C rfl dX0_mainPigmentOfRow_9 rfl ?_
      refine g_get (C0 := RX0) (T := TX0) (N := 17) 0 0 0 (.int (σ.1 0)) C hin rfl rfl (by decide) (by decide +kernel) rfl dX0_mainPigmentOfRow_10 ?_
      refine g_is (nI np) hnp ?_
      refine g_icmp_ge 43 C dX0_mainPigmentOfRow_13 (by decide) (fun c_13_1 => ?_) (fun c_13_1 => ?_)
      ·
        have d_13_1 : np ≤ i := (nI_leI (a := np) (b := i) (by omega) (by omega)).mp c_13_1
        refine g_iload_n 2 C rfl dX0_mainPigmentOfRow_43 rfl ?_
        exact g_iret C hr rfl dX0_mainPigmentOfRow_44 (Nat.zero_le _) (Nat.zero_le _) rfl (by rw [show np = i by omega]) rfl
      ·
        have d_13_1 : ¬ np ≤ i := fun q => c_13_1 ((nI_leI (a := np) (b := i) (by omega) (by omega)).mpr q)
        refine g_aload_n 0 C rfl dX0_mainPigmentOfRow_16 rfl ?_
        refine g_iload_n 1 C rfl dX0_mainPigmentOfRow_17 rfl ?_
        refine g_iload 4 C rfl dX0_mainPigmentOfRow_18 ?_
        refine g_callV0 (C0 := RX0) (T := TX0) (N := 17) (ci := 0) (na := 2) (As := [.int (nI (r)), .int (nI (i))]) (c_gramsOfPigment l D cI cJ h σ np nt no ni hI0 r (nI (i)) (by omega)) C gX0_mainPigmentOfRow_X0_gramsOfPigment rfl (by decide +kernel) rfl ⟨Nat.le_of_ble_eq_true rfl, Nat.le_of_ble_eq_true rfl⟩ rfl rfl rfl (Nat.le_of_ble_eq_true rfl) ⟨Nat.zero_le _, Nat.zero_le _⟩ rfl dX0_mainPigmentOfRow_20 ?_
        refine g_istore [(5, .int (gopN σ r (nI (i)) nt)), (0, .ref (h 0)), (1, .int (nI (r))), (2, .int ((mpr (fun k => gopN σ r (nI k) nt) i).1)), (3, .int ((mpr (fun k => gopN σ r (nI k) nt) i).2)), (4, .int (nI (i)))] C dX0_mainPigmentOfRow_23 (by decide) rfl ?_
        refine g_iload 0 C rfl dX0_mainPigmentOfRow_25 ?_
        refine g_iload_n 4 C rfl dX0_mainPigmentOfRow_27 rfl ?_
        refine g_icmp_le 37 C dX0_mainPigmentOfRow_28 (by decide) (fun c_28_2 => ?_) (fun c_28_2 => ?_)
        ·
          have ek : mpr (fun k => gopN σ r (nI k) nt) (i + 1) = mpr (fun k => gopN σ r (nI k) nt) i := if_pos c_28_2
          refine g_iincN 5 i 1 [(4, .int (nI (i + 1))), (5, .int (gopN σ r (nI (i)) nt)), (0, .ref (h 0)), (1, .int (nI (r))), (2, .int ((mpr (fun k => gopN σ r (nI k) nt) i).1)), (3, .int ((mpr (fun k => gopN σ r (nI k) nt) i).2))] C dX0_mainPigmentOfRow_37 rfl (by decide) (by decide) rfl ?_
          refine g_goto 7 C dX0_mainPigmentOfRow_40 (by decide) ?_
          refine g_lv [2, 3, 4, 5, 0] [(0, .ref (h 0)), (1, .int (nI (r))), (2, .int ((mpr (fun k => gopN σ r (nI k) nt) i).1)), (3, .int ((mpr (fun k => gopN σ r (nI k) nt) i).2)), (4, .int (nI (i + 1)))] rfl ?_
          have hx := ih_7 (i + 1) (by omega) (by omega)
          rw [ek] at hx
          exact hx
        ·
          have ek : mpr (fun k => gopN σ r (nI k) nt) (i + 1) = (nI i, gopN σ r (nI i) nt) := if_neg c_28_2
          refine g_iload 5 C rfl dX0_mainPigmentOfRow_31 ?_
          refine g_istore_n [(2, .int (nI (i))), (5, .int (gopN σ r (nI (i)) nt)), (0, .ref (h 0)), (1, .int (nI (r))), (3, .int ((mpr (fun k => gopN σ r (nI k) nt) i).2)), (4, .int (nI (i)))] C dX0_mainPigmentOfRow_33 rfl (by decide) rfl ?_
          refine g_iload 1 C rfl dX0_mainPigmentOfRow_34 ?_
          refine g_istore_n [(3, .int (gopN σ r (nI (i)) nt)), (2, .int (nI (i))), (5, .int (gopN σ r (nI (i)) nt)), (0, .ref (h 0)), (1, .int (nI (r))), (4, .int (nI (i)))] C dX0_mainPigmentOfRow_36 rfl (by decide) rfl ?_
          refine g_iincN 5 i 1 [(4, .int (nI (i + 1))), (3, .int (gopN σ r (nI (i)) nt)), (2, .int (nI (i))), (5, .int (gopN σ r (nI (i)) nt)), (0, .ref (h 0)), (1, .int (nI (r)))] C dX0_mainPigmentOfRow_37 rfl (by decide) (by decide) rfl ?_
          refine g_goto 7 C dX0_mainPigmentOfRow_40 (by decide) ?_
          refine g_lv [4, 5, 2, 1, 0] [(0, .ref (h 0)), (1, .int (nI (r))), (2, .int (nI (i))), (3, .int (gopN σ r (nI (i)) nt)), (4, .int (nI (i + 1)))] rfl ?_
          have hx := ih_7 (i + 1) (by omega) (by omega)
          rw [ek] at hx
          exact hx
  refine g_lv [3, 4, 2, 1, 0] [(0, .ref (h 0)), (1, .int (nI (r))), (2, .int ((-1))), (3, .int (0)), (4, .int (0))] rfl ?_
  exact loop_7 (np + 1) 0 (by omega) (by omega)
set_option maxRecDepth 100000 in
set_option maxHeartbeats 4000000 in
theorem c_mixed (l : Launch) (D : va_G) (cI cJ : ClassId) (h : Nat → Nat) (σ : gS) (np nt no ni : Nat) (hI : iA σ np nt no ni) (a b : Nat) (q : Int32) (ch : Nat) (ha : a < 12) (hb : b < 12) (hc : ch < 3) : MC l yX0_mixed wsX0_mixed 1 22 D (tyIJ cI cJ) [.ref (h 0), .int (nI (a)), .int (nI (b)), .int (q), .int (nI (ch))] (wA cI h σ) (wA cI h σ) none (some (.int (mixd σ a b q ch))) 0 := by
  have hI0 := hI
  obtain ⟨⟨hnp, hnp6⟩, ⟨hnt, hnt12⟩, ⟨hno, hno10⟩, ⟨hni, hni8⟩, hPT, hLC, hLH⟩ := hI
  refine MC.ofG (cc := cX0_mixed) (maxL := 5) (ret := (some .int)) [(0, .ref (h 0)), (1, .int (nI (a))), (2, .int (nI (b))), (3, .int (q)), (4, .int (nI (ch)))] (by decide) rfl (Nat.le_of_ble_eq_true rfl) rfl ?_
  intro p e s m args below meth c C hr hout
  refine g_iload_n 3 C rfl dX0_mixed_0 rfl ?_
  refine g_aload_n 0 C rfl dX0_mixed_1 rfl ?_
  refine g_iload_n 1 C rfl dX0_mixed_2 rfl ?_
  refine g_iload 4 C rfl dX0_mixed_3 ?_
  refine g_callV0 (C0 := RX0) (T := TX0) (N := 17) (ci := 0) (na := 2) (As := [.int (nI (a)), .int (nI (ch))]) (c_colourOfTube l D cI cJ h σ np nt no ni hI0 a ch (by omega) (by omega)) C gX0_mixed_X0_colourOfTube rfl (by decide +kernel) rfl ⟨Nat.le_of_ble_eq_true rfl, Nat.le_of_ble_eq_true rfl⟩ rfl rfl rfl (Nat.le_of_ble_eq_true rfl) ⟨Nat.zero_le _, Nat.zero_le _⟩ rfl dX0_mixed_5 ?_
  refine g_imul C dX0_mixed_8 ?_
  refine g_iconst 4 C dX0_mixed_9 (by decide) ?_
  refine g_iload_n 3 C rfl dX0_mixed_10 rfl ?_
  refine g_isub C dX0_mixed_11 ?_
  refine g_aload_n 0 C rfl dX0_mixed_12 rfl ?_
  refine g_iload_n 2 C rfl dX0_mixed_13 rfl ?_
  refine g_iload 4 C rfl dX0_mixed_14 ?_
  refine g_callV0 (C0 := RX0) (T := TX0) (N := 17) (ci := 0) (na := 2) (As := [.int (nI (b)), .int (nI (ch))]) (c_colourOfTube l D cI cJ h σ np nt no ni hI0 b ch (by omega) (by omega)) C gX0_mixed_X0_colourOfTube rfl (by decide +kernel) rfl ⟨Nat.le_of_ble_eq_true rfl, Nat.le_of_ble_eq_true rfl⟩ rfl rfl rfl (Nat.le_of_ble_eq_true rfl) ⟨Nat.zero_le _, Nat.zero_le _⟩ rfl dX0_mixed_16 ?_
  refine g_imul C dX0_mixed_19 ?_
  refine g_iadd C dX0_mixed_20 ?_
  refine g_iconst 4 C dX0_mixed_21 (by decide) ?_
  refine g_idiv C (by decide) dX0_mixed_22 ?_
  exact g_iret C hr rfl dX0_mixed_23 (Nat.zero_le _) (Nat.zero_le _) rfl rfl rfl
set_option maxRecDepth 100000 in
set_option maxHeartbeats 4000000 in
theorem c_mainPigmentOf (l : Launch) (D : va_G) (cI cJ : ClassId) (h : Nat → Nat) (σ : gS) (np nt no ni : Nat) (hI : iA σ np nt no ni) (q : Nat) (hq : q < 8) : MC l yX0_mainPigmentOf wsX0_mainPigmentOf 3 70 D (tyIJ cI cJ) [.ref (h 0), .int (nI (q))] (wA cI h σ) (wA cI h σ) none (some (.int (mpo σ np nt q))) 0 := by
  have hI0 := hI
  obtain ⟨⟨hnp, hnp6⟩, ⟨hnt, hnt12⟩, ⟨hno, hno10⟩, ⟨hni, hni8⟩, hPT, hLC, hLH⟩ := hI
  refine MC.ofG (cc := cX0_mainPigmentOf) (maxL := 3) (ret := (some .int)) [(0, .ref (h 0)), (1, .int (nI (q)))] (by decide) rfl (Nat.le_of_ble_eq_true rfl) rfl ?_
  intro p e s m args below meth c C hr hout
  have hin : ∀ w ∈ wsX00, w ∈ wsX0_mainPigmentOf := fun w h => by first | exact List.mem_cons_of_mem _ (List.mem_append_right _ h) | exact List.mem_cons_of_mem _ (List.mem_append_left _ (List.mem_append_right _ h)) | exact List.mem_cons_of_mem _ (List.mem_append_left _ (List.mem_append_left _ (List.mem_append_right _ h))) | exact List.mem_cons_of_mem _ (List.mem_append_left _ (List.mem_append_left _ (List.mem_append_left _ (List.mem_append_right _ h)))) | exact List.mem_cons_of_mem _ (List.mem_append_left _ (List.mem_append_left _ (List.mem_append_left _ (List.mem_append_left _ (List.mem_append_right _ h)))))
  refine g_aload_n 0 C rfl dX0_mainPigmentOf_0 rfl ?_
  refine g_get (C0 := RX0) (T := TX0) (N := 17) 0 0 9 (.ref (h 5)) C hin rfl rfl (by decide) (by decide +kernel) rfl dX0_mainPigmentOf_1 ?_
  refine g_iload_n 1 C rfl dX0_mainPigmentOf_4 rfl ?_
  refine g_ialdN (cA := cI) (n := 8) (a := h 5) (f := σ.2 4) q 5 0 C rfl rfl (by omega) (by decide) dX0_mainPigmentOf_5 ?_
  obtain ⟨j, hj, ej⟩ := hLC q
  refine g_is (nI (j)) ej ?_
  refine g_istore_n [(2, .int (nI (j))), (0, .ref (h 0)), (1, .int (nI (q)))] C dX0_mainPigmentOf_6 rfl (by decide) rfl ?_
  refine g_iload_n 0 C rfl dX0_mainPigmentOf_7 rfl ?_
  refine g_if_ne 15 C dX0_mainPigmentOf_8 (by decide) (fun c_8_1 => ?_) (fun c_8_1 => ?_)
  ·
    have d_8_1 : ¬ j = 0 := fun q => c_8_1 ((nI_eq (a := j) (b := 0) (by omega) (by omega)).mpr q)
    refine g_aload_n 1 C rfl dX0_mainPigmentOf_15 rfl ?_
    refine g_iload_n 2 C rfl dX0_mainPigmentOf_16 rfl ?_
    refine g_iload_n 0 C rfl dX0_mainPigmentOf_17 rfl ?_
    refine g_iconst 1 C dX0_mainPigmentOf_18 (by decide) ?_
    refine g_isubN j 1 C (by omega) dX0_mainPigmentOf_19 ?_
    refine g_callS0 (na := 2) (av := [.int (nI (q)), .int (nI (j - 1))]) (c_layerRow l D cI cJ _ q (j - 1)) C gX0_mainPigmentOf_X0_layerRow rfl (by decide +kernel) rfl ⟨Nat.le_of_ble_eq_true rfl, Nat.le_of_ble_eq_true rfl⟩ rfl (Nat.le_of_ble_eq_true rfl) ⟨Nat.zero_le _, Nat.zero_le _⟩ rfl dX0_mainPigmentOf_20 ?_
    refine g_callV0 (C0 := RX0) (T := TX0) (N := 17) (ci := 0) (na := 1) (As := [.int (nI (10 + q * 12 + (j - 1)))]) (c_mainPigmentOfRow l D cI cJ h σ np nt no ni hI0 (10 + q * 12 + (j - 1)) (by omega)) C gX0_mainPigmentOf_X0_mainPigmentOfRow rfl (by decide +kernel) rfl ⟨Nat.le_of_ble_eq_true rfl, Nat.le_of_ble_eq_true rfl⟩ rfl rfl rfl (Nat.le_of_ble_eq_true rfl) ⟨Nat.zero_le _, Nat.zero_le _⟩ rfl dX0_mainPigmentOf_23 ?_
    exact g_iret C hr rfl dX0_mainPigmentOf_26 (Nat.zero_le _) (Nat.zero_le _) rfl (congrArg (fun x => some (Value.int x)) (by rw [mpo, if_neg (by rw [ej]; exact nI_ne0 (by omega) (by omega)), topR, ej, cl_nI (by omega)])) rfl
  ·
    have d_8_1 : j = 0 := (nI_eq (a := j) (b := 0) (by omega) (by omega)).mp c_8_1
    refine g_iconst (-1) C dX0_mainPigmentOf_11 (by decide) ?_
    refine g_goto 26 C dX0_mainPigmentOf_12 (by decide) ?_
    exact g_iret C hr rfl dX0_mainPigmentOf_26 (Nat.zero_le _) (Nat.zero_le _) rfl (congrArg (fun x => some (Value.int x)) (by rw [mpo, if_pos (by rw [ej, d_8_1]; rfl)])) rfl
set_option maxRecDepth 100000 in
set_option maxHeartbeats 4000000 in
theorem c_lookOf (l : Launch) (D : va_G) (cI cJ : ClassId) (h : Nat → Nat) (σ : gS) (np nt no ni : Nat) (hI : iA σ np nt no ni) (q ch : Nat) (hq : q < 8) (hc : ch < 3) : MC l yX0_lookOf wsX0_lookOf 2 48 D (tyIJ cI cJ) [.ref (h 0), .int (nI (q)), .int (nI (ch))] (wA cI h σ) (wA cI h σ) none (some (.int (lko σ nt q ch))) 0 := by
  have hI0 := hI
  obtain ⟨⟨hnp, hnp6⟩, ⟨hnt, hnt12⟩, ⟨hno, hno10⟩, ⟨hni, hni8⟩, hPT, hLC, hLH⟩ := hI
  refine MC.ofG (cc := cX0_lookOf) (maxL := 4) (ret := (some .int)) [(0, .ref (h 0)), (1, .int (nI (q))), (2, .int (nI (ch)))] (by decide) rfl (Nat.le_of_ble_eq_true rfl) rfl ?_
  intro p e s m args below meth c C hr hout
  have hin : ∀ w ∈ wsX00, w ∈ wsX0_lookOf := fun w h => by first | exact List.mem_cons_of_mem _ (List.mem_append_right _ h) | exact List.mem_cons_of_mem _ (List.mem_append_left _ (List.mem_append_right _ h)) | exact List.mem_cons_of_mem _ (List.mem_append_left _ (List.mem_append_left _ (List.mem_append_right _ h))) | exact List.mem_cons_of_mem _ (List.mem_append_left _ (List.mem_append_left _ (List.mem_append_left _ (List.mem_append_right _ h)))) | exact List.mem_cons_of_mem _ (List.mem_append_left _ (List.mem_append_left _ (List.mem_append_left _ (List.mem_append_left _ (List.mem_append_right _ h)))))
  refine g_aload_n 0 C rfl dX0_lookOf_0 rfl ?_
  refine g_get (C0 := RX0) (T := TX0) (N := 17) 0 0 9 (.ref (h 5)) C hin rfl rfl (by decide) (by decide +kernel) rfl dX0_lookOf_1 ?_
  refine g_iload_n 1 C rfl dX0_lookOf_4 rfl ?_
  refine g_ialdN (cA := cI) (n := 8) (a := h 5) (f := σ.2 4) q 5 0 C rfl rfl (by omega) (by decide) dX0_lookOf_5 ?_
  obtain ⟨j, hj, ej⟩ := hLC q
  refine g_is (nI (j)) ej ?_
  refine g_istore_n [(3, .int (nI (j))), (0, .ref (h 0)), (1, .int (nI (q))), (2, .int (nI (ch)))] C dX0_lookOf_6 rfl (by decide) rfl ?_
  refine g_iload_n 0 C rfl dX0_lookOf_7 rfl ?_
  refine g_if_ne 15 C dX0_lookOf_8 (by decide) (fun c_8_1 => ?_) (fun c_8_1 => ?_)
  ·
    have d_8_1 : ¬ j = 0 := fun q => c_8_1 ((nI_eq (a := j) (b := 0) (by omega) (by omega)).mpr q)
    refine g_aload_n 1 C rfl dX0_lookOf_15 rfl ?_
    refine g_iload_n 2 C rfl dX0_lookOf_16 rfl ?_
    refine g_iload_n 0 C rfl dX0_lookOf_17 rfl ?_
    refine g_iconst 1 C dX0_lookOf_18 (by decide) ?_
    refine g_isubN j 1 C (by omega) dX0_lookOf_19 ?_
    refine g_callS0 (na := 2) (av := [.int (nI (q)), .int (nI (j - 1))]) (c_layerRow l D cI cJ _ q (j - 1)) C gX0_lookOf_X0_layerRow rfl (by decide +kernel) rfl ⟨Nat.le_of_ble_eq_true rfl, Nat.le_of_ble_eq_true rfl⟩ rfl (Nat.le_of_ble_eq_true rfl) ⟨Nat.zero_le _, Nat.zero_le _⟩ rfl dX0_lookOf_20 ?_
    refine g_iload_n 3 C rfl dX0_lookOf_23 rfl ?_
    refine g_callV0 (C0 := RX0) (T := TX0) (N := 17) (ci := 0) (na := 2) (As := [.int (nI (10 + q * 12 + (j - 1))), .int (nI (ch))]) (c_colourOfRow l D cI cJ h σ np nt no ni hI0 (10 + q * 12 + (j - 1)) ch (by omega) (by omega)) C gX0_lookOf_X0_colourOfRow rfl (by decide +kernel) rfl ⟨Nat.le_of_ble_eq_true rfl, Nat.le_of_ble_eq_true rfl⟩ rfl rfl rfl (Nat.le_of_ble_eq_true rfl) ⟨Nat.zero_le _, Nat.zero_le _⟩ rfl dX0_lookOf_24 ?_
    exact g_iret C hr rfl dX0_lookOf_27 (Nat.zero_le _) (Nat.zero_le _) rfl (congrArg (fun x => some (Value.int x)) (by rw [lko, if_neg (by rw [ej]; exact nI_ne0 (by omega) (by omega)), topR, ej, cl_nI (by omega)])) rfl
  ·
    have d_8_1 : j = 0 := (nI_eq (a := j) (b := 0) (by omega) (by omega)).mp c_8_1
    refine g_iconst (-1) C dX0_lookOf_11 (by decide) ?_
    refine g_goto 27 C dX0_lookOf_12 (by decide) ?_
    exact g_iret C hr rfl dX0_lookOf_27 (Nat.zero_le _) (Nat.zero_le _) rfl (congrArg (fun x => some (Value.int x)) (by rw [lko, if_pos (by rw [ej, d_8_1]; rfl)])) rfl
set_option maxRecDepth 100000 in
set_option maxHeartbeats 4000000 in
theorem c_averagePriceOfAlike (l : Launch) (D : va_G) (cI cJ : ClassId) (h : Nat → Nat) (σ : gS) (np nt no ni : Nat) (hI : iA σ np nt no ni) (q : Nat) (hq : q < 8) : MC l yX0_averagePriceOfAlike wsX0_averagePriceOfAlike 4 92 D (tyIJ cI cJ) [.ref (h 0), .int (nI (q))] (wA cI h σ) (wA cI h σ) none (some (.int (avgA σ np nt ni q))) 0 := by
  have hI0 := hI
  obtain ⟨⟨hnp, hnp6⟩, ⟨hnt, hnt12⟩, ⟨hno, hno10⟩, ⟨hni, hni8⟩, hPT, hLC, hLH⟩ := hI
  refine MC.ofG (cc := cX0_averagePriceOfAlike) (maxL := 6) (ret := (some .int)) [(0, .ref (h 0)), (1, .int (nI (q)))] (by decide) rfl (Nat.le_of_ble_eq_true rfl) rfl ?_
  intro p e s m args below meth c C hr hout
  have hin : ∀ w ∈ wsX00, w ∈ wsX0_averagePriceOfAlike := fun w h => by first | exact List.mem_cons_of_mem _ (List.mem_append_right _ h) | exact List.mem_cons_of_mem _ (List.mem_append_left _ (List.mem_append_right _ h)) | exact List.mem_cons_of_mem _ (List.mem_append_left _ (List.mem_append_left _ (List.mem_append_right _ h))) | exact List.mem_cons_of_mem _ (List.mem_append_left _ (List.mem_append_left _ (List.mem_append_left _ (List.mem_append_right _ h)))) | exact List.mem_cons_of_mem _ (List.mem_append_left _ (List.mem_append_left _ (List.mem_append_left _ (List.mem_append_left _ (List.mem_append_right _ h)))))
  refine g_aload_n 0 C rfl dX0_averagePriceOfAlike_0 rfl ?_
  refine g_iload_n 1 C rfl dX0_averagePriceOfAlike_1 rfl ?_
  refine g_callV0 (C0 := RX0) (T := TX0) (N := 17) (ci := 0) (na := 1) (As := [.int (nI (q))]) (c_mainPigmentOf l D cI cJ h σ np nt no ni hI0 q (by omega)) C gX0_averagePriceOfAlike_X0_mainPigmentOf rfl (by decide +kernel) rfl ⟨Nat.le_of_ble_eq_true rfl, Nat.le_of_ble_eq_true rfl⟩ rfl rfl rfl (Nat.le_of_ble_eq_true rfl) ⟨Nat.zero_le _, Nat.zero_le _⟩ rfl dX0_averagePriceOfAlike_2 ?_
  refine g_istore_n [(2, .int (mpo σ np nt q)), (0, .ref (h 0)), (1, .int (nI (q)))] C dX0_averagePriceOfAlike_5 rfl (by decide) rfl ?_
  refine g_iload_n 0 C rfl dX0_averagePriceOfAlike_6 rfl ?_
  refine g_iconst (-1) C dX0_averagePriceOfAlike_7 (by decide) ?_
  refine g_icmp_ne 13 C dX0_averagePriceOfAlike_8 (by decide) (fun c_8_1 => ?_) (fun c_8_1 => ?_)
  ·
    have hm1 := c_8_1
    refine g_iconst 0 C dX0_averagePriceOfAlike_13 (by decide) ?_
    refine g_istore_n [(3, .int (0)), (2, .int (mpo σ np nt q)), (0, .ref (h 0)), (1, .int (nI (q)))] C dX0_averagePriceOfAlike_14 rfl (by decide) rfl ?_
    refine g_iconst 0 C dX0_averagePriceOfAlike_15 (by decide) ?_
    refine g_istore [(4, .int (0)), (3, .int (0)), (2, .int (mpo σ np nt q)), (0, .ref (h 0)), (1, .int (nI (q)))] C dX0_averagePriceOfAlike_16 (by decide) rfl ?_
    refine g_iconst 0 C dX0_averagePriceOfAlike_18 (by decide) ?_
    refine g_istore [(5, .int (0)), (4, .int (0)), (3, .int (0)), (2, .int (mpo σ np nt q)), (0, .ref (h 0)), (1, .int (nI (q)))] C dX0_averagePriceOfAlike_19 (by decide) rfl ?_
    have loop_21 : ∀ (fu : Nat) (i : Nat), i ≤ ni → ni + 1 ≤ i + fu → G p l e ({ frames := 4, cells := 0, slots := 6 * 0, locals := 92 } : Room) s m args below meth c D (va_A (wA cI h σ) s.heap.size) 6 0 0 (gQ below D (wA cI h σ) (wA cI h σ) none (some (.int (avgA σ np nt ni q))) 0 args s) (wA cI h σ) [(0, .ref (h 0)), (1, .int (nI (q))), (2, .int (mpo σ np nt q)), (3, .int ((alk σ np nt (mpo σ np nt q) i).1)), (4, .int ((alk σ np nt (mpo σ np nt q) i).2)), (5, .int (nI (i)))] 21 [] := by
      intro fu
      induction fu with
      | zero => intro i hi hf; exact absurd True.intro (by omega)
      | succ fu ih_21 =>
        intro i hi hf
        refine g_iload 5 C rfl dX0_averagePriceOfAlike_21 ?_
        refine g_aload_n 0 C rfl dX0_averagePriceOfAlike_23 rfl ?_
        refine g_get (C0 := RX0) (T := TX0) (N := 17) 0 0 3 (.int (σ.1 3)) C hin rfl rfl (by decide) (by decide +kernel) rfl dX0_averagePriceOfAlike_24 ?_
        refine g_is (nI ni) hni ?_
        refine g_icmp_ge 69 C dX0_averagePriceOfAlike_27 (by decide) (fun c_27_2 => ?_) (fun c_27_2 => ?_)
        ·
          have d_27_2 : ni ≤ i := (nI_leI (a := ni) (b := i) (by omega) (by omega)).mp c_27_2
          refine g_iload 4 C rfl dX0_averagePriceOfAlike_69 ?_
          refine g_if_ne 78 C dX0_averagePriceOfAlike_71 (by decide) (fun c_71_3 => ?_) (fun c_71_3 => ?_)
          ·
            have cz := c_71_3
            refine g_iload_n 3 C rfl dX0_averagePriceOfAlike_78 rfl ?_
            refine g_iload 4 C rfl dX0_averagePriceOfAlike_79 ?_
            refine g_idiv C cz dX0_averagePriceOfAlike_81 ?_
            exact g_iret C hr rfl dX0_averagePriceOfAlike_82 (Nat.zero_le _) (Nat.zero_le _) rfl (congrArg (fun x => some (Value.int x)) (by have e : ni = i := (by omega); subst e; rw [avgA, if_neg hm1, if_neg cz])) rfl
          ·
            have cz := c_71_3
            refine g_iconst 0 C dX0_averagePriceOfAlike_74 (by decide) ?_
            refine g_goto 82 C dX0_averagePriceOfAlike_75 (by decide) ?_
            exact g_iret C hr rfl dX0_averagePriceOfAlike_82 (Nat.zero_le _) (Nat.zero_le _) rfl (congrArg (fun x => some (Value.int x)) (by have e : ni = i := (by omega); subst e; rw [avgA, if_neg hm1, if_pos cz])) rfl
        ·
          have d_27_2 : ¬ ni ≤ i := fun q => c_27_2 ((nI_leI (a := ni) (b := i) (by omega) (by omega)).mpr q)
          refine g_aload_n 0 C rfl dX0_averagePriceOfAlike_30 rfl ?_
          refine g_get (C0 := RX0) (T := TX0) (N := 17) 0 0 11 (.ref (h 7)) C hin rfl rfl (by decide) (by decide +kernel) rfl dX0_averagePriceOfAlike_31 ?_
          refine g_iload 5 C rfl dX0_averagePriceOfAlike_34 ?_
          refine g_ialdN (cA := cI) (n := 8) (a := h 7) (f := σ.2 6) i 7 0 C rfl rfl (by omega) (by decide) dX0_averagePriceOfAlike_36 ?_
          refine g_if_le 63 C dX0_averagePriceOfAlike_37 (by decide) (fun c_37_4 => ?_) (fun c_37_4 => ?_)
          ·
            have ek : alk σ np nt (mpo σ np nt q) (i + 1) = alk σ np nt (mpo σ np nt q) i := if_neg (fun q => q.1 c_37_4)
            refine g_iincN 5 i 1 [(5, .int (nI (i + 1))), (0, .ref (h 0)), (1, .int (nI (q))), (2, .int (mpo σ np nt q)), (3, .int ((alk σ np nt (mpo σ np nt q) i).1)), (4, .int ((alk σ np nt (mpo σ np nt q) i).2))] C dX0_averagePriceOfAlike_63 rfl (by decide) (by decide) rfl ?_
            refine g_goto 21 C dX0_averagePriceOfAlike_66 (by decide) ?_
            refine g_lv [1, 2, 3, 4, 5, 0] [(0, .ref (h 0)), (1, .int (nI (q))), (2, .int (mpo σ np nt q)), (3, .int ((alk σ np nt (mpo σ np nt q) i).1)), (4, .int ((alk σ np nt (mpo σ np nt q) i).2)), (5, .int (nI (i + 1)))] rfl ?_
            have hx := ih_21 (i + 1) (by omega) (by omega)
            rw [ek] at hx
            exact hx
          ·
            have cp := c_37_4
            refine g_aload_n 0 C rfl dX0_averagePriceOfAlike_40 rfl ?_
            refine g_iload 5 C rfl dX0_averagePriceOfAlike_41 ?_
            refine g_callV0 (C0 := RX0) (T := TX0) (N := 17) (ci := 0) (na := 1) (As := [.int (nI (i))]) (c_mainPigmentOf l D cI cJ h σ np nt no ni hI0 i (by omega)) C gX0_averagePriceOfAlike_X0_mainPigmentOf rfl (by decide +kernel) rfl ⟨Nat.le_of_ble_eq_true rfl, Nat.le_of_ble_eq_true rfl⟩ rfl rfl rfl (Nat.le_of_ble_eq_true rfl) ⟨Nat.zero_le _, Nat.zero_le _⟩ rfl dX0_averagePriceOfAlike_43 ?_
            refine g_iload_n 2 C rfl dX0_averagePriceOfAlike_46 rfl ?_
            refine g_icmp_ne 63 C dX0_averagePriceOfAlike_47 (by decide) (fun c_47_5 => ?_) (fun c_47_5 => ?_)
            ·
              have ek : alk σ np nt (mpo σ np nt q) (i + 1) = alk σ np nt (mpo σ np nt q) i := if_neg (fun q => c_47_5 q.2)
              refine g_iincN 5 i 1 [(5, .int (nI (i + 1))), (0, .ref (h 0)), (1, .int (nI (q))), (2, .int (mpo σ np nt q)), (3, .int ((alk σ np nt (mpo σ np nt q) i).1)), (4, .int ((alk σ np nt (mpo σ np nt q) i).2))] C dX0_averagePriceOfAlike_63 rfl (by decide) (by decide) rfl ?_
              refine g_goto 21 C dX0_averagePriceOfAlike_66 (by decide) ?_
              refine g_lv [1, 2, 3, 4, 5, 0] [(0, .ref (h 0)), (1, .int (nI (q))), (2, .int (mpo σ np nt q)), (3, .int ((alk σ np nt (mpo σ np nt q) i).1)), (4, .int ((alk σ np nt (mpo σ np nt q) i).2)), (5, .int (nI (i + 1)))] rfl ?_
              have hx := ih_21 (i + 1) (by omega) (by omega)
              rw [ek] at hx
              exact hx
            ·
              have ek : alk σ np nt (mpo σ np nt q) (i + 1) = ((alk σ np nt (mpo σ np nt q) i).1 + σ.2 6 i, (alk σ np nt (mpo σ np nt q) i).2 + 1) := if_pos ⟨cp, c_47_5⟩
              refine g_iload_n 3 C rfl dX0_averagePriceOfAlike_50 rfl ?_
              refine g_aload_n 0 C rfl dX0_averagePriceOfAlike_51 rfl ?_
              refine g_get (C0 := RX0) (T := TX0) (N := 17) 0 0 11 (.ref (h 7)) C hin rfl rfl (by decide) (by decide +kernel) rfl dX0_averagePriceOfAlike_52 ?_
              refine g_iload 5 C rfl dX0_averagePriceOfAlike_55 ?_
              refine g_ialdN (cA := cI) (n := 8) (a := h 7) (f := σ.2 6) i 7 0 C rfl rfl (by omega) (by decide) dX0_averagePriceOfAlike_57 ?_
              refine g_iadd C dX0_averagePriceOfAlike_58 ?_
              refine g_istore_n [(3, .int (((alk σ np nt (mpo σ np nt q) i).1) + (σ.2 6 i))), (0, .ref (h 0)), (1, .int (nI (q))), (2, .int (mpo σ np nt q)), (4, .int ((alk σ np nt (mpo σ np nt q) i).2)), (5, .int (nI (i)))] C dX0_averagePriceOfAlike_59 rfl (by decide) rfl ?_
              refine g_iinc 4 (((alk σ np nt (mpo σ np nt q) i).2) + 1) [(4, .int (((alk σ np nt (mpo σ np nt q) i).2) + 1)), (3, .int (((alk σ np nt (mpo σ np nt q) i).1) + (σ.2 6 i))), (0, .ref (h 0)), (1, .int (nI (q))), (2, .int (mpo σ np nt q)), (5, .int (nI (i)))] C dX0_averagePriceOfAlike_60 rfl rfl (by decide) rfl ?_
              refine g_iincN 5 i 1 [(5, .int (nI (i + 1))), (4, .int (((alk σ np nt (mpo σ np nt q) i).2) + 1)), (3, .int (((alk σ np nt (mpo σ np nt q) i).1) + (σ.2 6 i))), (0, .ref (h 0)), (1, .int (nI (q))), (2, .int (mpo σ np nt q))] C dX0_averagePriceOfAlike_63 rfl (by decide) (by decide) rfl ?_
              refine g_goto 21 C dX0_averagePriceOfAlike_66 (by decide) ?_
              refine g_lv [3, 4, 5, 2, 1, 0] [(0, .ref (h 0)), (1, .int (nI (q))), (2, .int (mpo σ np nt q)), (3, .int (((alk σ np nt (mpo σ np nt q) i).1) + (σ.2 6 i))), (4, .int (((alk σ np nt (mpo σ np nt q) i).2) + 1)), (5, .int (nI (i + 1)))] rfl ?_
              have hx := ih_21 (i + 1) (by omega) (by omega)
              rw [ek] at hx
              exact hx
    refine g_lv [4, 5, 3, 2, 1, 0] [(0, .ref (h 0)), (1, .int (nI (q))), (2, .int (mpo σ np nt q)), (3, .int (0)), (4, .int (0)), (5, .int (0))] rfl ?_
    exact loop_21 (ni + 1) 0 (by omega) (by omega)
  ·
    refine g_iconst 0 C dX0_averagePriceOfAlike_11 (by decide) ?_
    exact g_iret C hr rfl dX0_averagePriceOfAlike_12 (Nat.zero_le _) (Nat.zero_le _) rfl (congrArg (fun x => some (Value.int x)) (by rw [avgA, if_pos (by assumption)])) rfl
set_option maxRecDepth 100000 in
set_option maxHeartbeats 4000000 in
theorem c_valueOf (l : Launch) (D : va_G) (cI cJ : ClassId) (h : Nat → Nat) (σ : gS) (np nt no ni : Nat) (hI : iA σ np nt no ni) (q : Nat) (hq : q < 8) : MC l yX0_valueOf wsX0_valueOf 5 117 D (tyIJ cI cJ) [.ref (h 0), .int (nI (q))] (wA cI h σ) (wA cI h σ) none (some (.int (valA σ np nt ni q))) 0 := by
  have hI0 := hI
  obtain ⟨⟨hnp, hnp6⟩, ⟨hnt, hnt12⟩, ⟨hno, hno10⟩, ⟨hni, hni8⟩, hPT, hLC, hLH⟩ := hI
  refine MC.ofG (cc := cX0_valueOf) (maxL := 3) (ret := (some .int)) [(0, .ref (h 0)), (1, .int (nI (q)))] (by decide) rfl (Nat.le_of_ble_eq_true rfl) rfl ?_
  intro p e s m args below meth c C hr hout
  have hin : ∀ w ∈ wsX00, w ∈ wsX0_valueOf := fun w h => by first | exact List.mem_cons_of_mem _ (List.mem_append_right _ h) | exact List.mem_cons_of_mem _ (List.mem_append_left _ (List.mem_append_right _ h)) | exact List.mem_cons_of_mem _ (List.mem_append_left _ (List.mem_append_left _ (List.mem_append_right _ h))) | exact List.mem_cons_of_mem _ (List.mem_append_left _ (List.mem_append_left _ (List.mem_append_left _ (List.mem_append_right _ h)))) | exact List.mem_cons_of_mem _ (List.mem_append_left _ (List.mem_append_left _ (List.mem_append_left _ (List.mem_append_left _ (List.mem_append_right _ h)))))
  refine g_aload_n 0 C rfl dX0_valueOf_0 rfl ?_
  refine g_iload_n 1 C rfl dX0_valueOf_1 rfl ?_
  refine g_callV0 (C0 := RX0) (T := TX0) (N := 17) (ci := 0) (na := 1) (As := [.int (nI (q))]) (c_averagePriceOfAlike l D cI cJ h σ np nt no ni hI0 q (by omega)) C gX0_valueOf_X0_averagePriceOfAlike rfl (by decide +kernel) rfl ⟨Nat.le_of_ble_eq_true rfl, Nat.le_of_ble_eq_true rfl⟩ rfl rfl rfl (Nat.le_of_ble_eq_true rfl) ⟨Nat.zero_le _, Nat.zero_le _⟩ rfl dX0_valueOf_2 ?_
  refine g_istore_n [(2, .int (avgA σ np nt ni q)), (0, .ref (h 0)), (1, .int (nI (q)))] C dX0_valueOf_5 rfl (by decide) rfl ?_
  refine g_iconst 0 C dX0_valueOf_6 (by decide) ?_
  refine g_iload_n 0 C rfl dX0_valueOf_7 rfl ?_
  refine g_aload_n 1 C rfl dX0_valueOf_8 rfl ?_
  refine g_get (C0 := RX0) (T := TX0) (N := 17) 0 0 10 (.ref (h 6)) C hin rfl rfl (by decide) (by decide +kernel) rfl dX0_valueOf_9 ?_
  refine g_iload_n 2 C rfl dX0_valueOf_12 rfl ?_
  refine g_ialdN (cA := cI) (n := 8) (a := h 6) (f := σ.2 5) q 6 0 C rfl rfl (by omega) (by decide) dX0_valueOf_13 ?_
  refine g_iload_n 0 C rfl dX0_valueOf_14 rfl ?_
  refine g_bipush 20 C dX0_valueOf_15 (by decide) ?_
  refine g_idiv C (by decide) dX0_valueOf_17 ?_
  refine g_imul C dX0_valueOf_18 ?_
  refine g_isub C dX0_valueOf_19 ?_
  refine g_max C (by decide +kernel) (by decide +kernel) (by decide +kernel) (by decide +kernel) (Nat.le_of_ble_eq_true rfl) (Nat.le_of_ble_eq_true rfl) (Nat.zero_le _) (Nat.zero_le _) dX0_valueOf_20 ?_
  exact g_iret C hr rfl dX0_valueOf_23 (Nat.zero_le _) (Nat.zero_le _) rfl rfl rfl
set_option maxRecDepth 100000 in
set_option maxHeartbeats 4000000 in
theorem c_passForLoan (l : Launch) (D : va_G) (cI cJ : ClassId) (h : Nat → Nat) (σ : gS) (np nt no ni : Nat) (hI : iA σ np nt no ni) (q : Nat) (d : Int32) (hq : q < 8) : MC l yX0_passForLoan wsX0_passForLoan 2 60 D (tyIJ cI cJ) [.ref (h 0), .int (nI (q)), .int (d)] (wA cI h σ) (wA cI h (pfl σ d q)) none none 0 := by
  have hI0 := hI
  obtain ⟨⟨hnp, hnp6⟩, ⟨hnt, hnt12⟩, ⟨hno, hno10⟩, ⟨hni, hni8⟩, hPT, hLC, hLH⟩ := hI
  refine MC.ofG (cc := cX0_passForLoan) (maxL := 5) (ret := none) [(0, .ref (h 0)), (1, .int (nI (q))), (2, .int (d))] (by decide) rfl (Nat.le_of_ble_eq_true rfl) rfl ?_
  intro p e s m args below meth c C hr hout
  have hin : ∀ w ∈ wsX00, w ∈ wsX0_passForLoan := fun w h => by first | exact List.mem_cons_of_mem _ (List.mem_append_right _ h) | exact List.mem_cons_of_mem _ (List.mem_append_left _ (List.mem_append_right _ h)) | exact List.mem_cons_of_mem _ (List.mem_append_left _ (List.mem_append_left _ (List.mem_append_right _ h))) | exact List.mem_cons_of_mem _ (List.mem_append_left _ (List.mem_append_left _ (List.mem_append_left _ (List.mem_append_right _ h)))) | exact List.mem_cons_of_mem _ (List.mem_append_left _ (List.mem_append_left _ (List.mem_append_left _ (List.mem_append_left _ (List.mem_append_right _ h)))))
  refine g_iload_n 2 C rfl dX0_passForLoan_0 rfl ?_
  refine g_aload_n 0 C rfl dX0_passForLoan_1 rfl ?_
  refine g_get (C0 := RX0) (T := TX0) (N := 17) 0 0 12 (.ref (h 8)) C hin rfl rfl (by decide) (by decide +kernel) rfl dX0_passForLoan_2 ?_
  refine g_iload_n 1 C rfl dX0_passForLoan_5 rfl ?_
  refine g_ialdN (cA := cI) (n := 8) (a := h 8) (f := σ.2 7) q 8 0 C rfl rfl (by omega) (by decide) dX0_passForLoan_6 ?_
  refine g_min C (by decide +kernel) (by decide +kernel) (by decide +kernel) (by decide +kernel) (Nat.le_of_ble_eq_true rfl) (Nat.le_of_ble_eq_true rfl) (Nat.zero_le _) (Nat.zero_le _) dX0_passForLoan_7 ?_
  refine g_is ((lentD σ d q)) rfl ?_
  refine g_istore_n [(3, .int (lentD σ d q)), (0, .ref (h 0)), (1, .int (nI (q))), (2, .int (d))] C dX0_passForLoan_10 rfl (by decide) rfl ?_
  refine g_aload_n 1 C rfl dX0_passForLoan_11 rfl ?_
  refine g_get (C0 := RX0) (T := TX0) (N := 17) 0 0 13 (.ref (h 9)) C hin rfl rfl (by decide) (by decide +kernel) rfl dX0_passForLoan_12 ?_
  refine g_iload_n 2 C rfl dX0_passForLoan_15 rfl ?_
  refine g_ialdN (cA := cI) (n := 8) (a := h 9) (f := σ.2 8) q 9 0 C rfl rfl (by omega) (by decide) dX0_passForLoan_16 ?_
  obtain ⟨j, hj, ej⟩ := hLH q
  refine g_is (nI (j)) ej ?_
  refine g_istore [(4, .int (nI (j))), (3, .int (lentD σ d q)), (0, .ref (h 0)), (1, .int (nI (q))), (2, .int (d))] C dX0_passForLoan_17 (by decide) rfl ?_
  refine g_aload_n 2 C rfl dX0_passForLoan_19 rfl ?_
  refine g_get (C0 := RX0) (T := TX0) (N := 17) 0 0 15 (.ref (h 11)) C hin rfl rfl (by decide) (by decide +kernel) rfl dX0_passForLoan_20 ?_
  refine g_iload 0 C rfl dX0_passForLoan_23 ?_
  refine g_ialdN (cA := cI) (n := 4) (a := h 11) (f := σ.2 10) j 11 0 C rfl rfl (by omega) (by decide) dX0_passForLoan_25 ?_
  refine g_bipush 50 C dX0_passForLoan_26 (by decide) ?_
  refine g_isub C dX0_passForLoan_28 ?_
  refine g_abs C (by decide +kernel) (by decide +kernel) (by decide +kernel) (by decide +kernel) (Nat.le_of_ble_eq_true rfl) (Nat.le_of_ble_eq_true rfl) (Nat.zero_le _) (Nat.zero_le _) dX0_passForLoan_29 ?_
  refine g_bipush 10 C dX0_passForLoan_32 (by decide) ?_
  refine g_icmp_le 47 C dX0_passForLoan_34 (by decide) (fun c_34_1 => ?_) (fun c_34_1 => ?_)
  ·
    refine g_aload_n 2 C rfl dX0_passForLoan_47 rfl ?_
    refine g_get (C0 := RX0) (T := TX0) (N := 17) 0 0 16 (.ref (h 12)) C hin rfl rfl (by decide) (by decide +kernel) rfl dX0_passForLoan_48 ?_
    refine g_iload 0 C rfl dX0_passForLoan_51 ?_
    refine g_dup2 C dX0_passForLoan_53 rfl rfl ?_
    refine g_ialdN (cA := cI) (n := 4) (a := h 12) (f := σ.2 11) j 12 0 C rfl rfl (by omega) (by decide) dX0_passForLoan_54 ?_
    refine g_iload_n 1 C rfl dX0_passForLoan_55 rfl ?_
    refine g_aload_n 2 C rfl dX0_passForLoan_56 rfl ?_
    refine g_get (C0 := RX0) (T := TX0) (N := 17) 0 0 14 (.ref (h 10)) C hin rfl rfl (by decide) (by decide +kernel) rfl dX0_passForLoan_57 ?_
    refine g_iload_n 3 C rfl dX0_passForLoan_60 rfl ?_
    refine g_ialdN (cA := cI) (n := 8) (a := h 10) (f := σ.2 9) q 10 0 C rfl rfl (by omega) (by decide) dX0_passForLoan_61 ?_
    refine g_imul C dX0_passForLoan_62 ?_
    refine g_iadd C dX0_passForLoan_63 ?_
    refine g_iastN (cA := cI) (n := 4) (a := h 12) (f := σ.2 11) (x := ((σ.2 11 j) + ((lentD σ d q) * (σ.2 9 q)))) j 12 0 (wA cI h (sA σ 11 (upd (σ.2 11) j (((σ.2 11 j) + ((lentD σ d q) * (σ.2 9 q))))))) C rfl rfl (by omega) (by decide) rfl dX0_passForLoan_64 ?_
    refine g_aload_n 2 C rfl dX0_passForLoan_65 rfl ?_
    refine g_get (C0 := RX0) (T := TX0) (N := 17) 0 0 12 (.ref (h 8)) C hin rfl rfl (by decide) (by decide +kernel) rfl dX0_passForLoan_66 ?_
    refine g_iload_n 3 C rfl dX0_passForLoan_69 rfl ?_
    refine g_dup2 C dX0_passForLoan_70 rfl rfl ?_
    refine g_ialdN (cA := cI) (n := 8) (a := h 8) (f := σ.2 7) q 8 0 C rfl rfl (by omega) (by decide) dX0_passForLoan_71 ?_
    refine g_iload_n 1 C rfl dX0_passForLoan_72 rfl ?_
    refine g_isub C dX0_passForLoan_73 ?_
    refine g_iastN (cA := cI) (n := 8) (a := h 8) (f := σ.2 7) (x := ((σ.2 7 q) - (lentD σ d q))) q 8 0 (wA cI h (sA (sA σ 11 (upd (σ.2 11) j (((σ.2 11 j) + ((lentD σ d q) * (σ.2 9 q)))))) 7 (upd (σ.2 7) q (((σ.2 7 q) - (lentD σ d q)))))) C rfl rfl (by omega) (by decide) rfl dX0_passForLoan_74 ?_
    exact g_vret C hr dX0_passForLoan_75 (Nat.zero_le _) (Nat.zero_le _) rfl rfl (by rw [pfl, ej, cl_nI (by omega), if_pos c_34_1])
  ·
    refine g_aload_n 2 C rfl dX0_passForLoan_37 rfl ?_
    refine g_get (C0 := RX0) (T := TX0) (N := 17) 0 0 10 (.ref (h 6)) C hin rfl rfl (by decide) (by decide +kernel) rfl dX0_passForLoan_38 ?_
    refine g_iload_n 3 C rfl dX0_passForLoan_41 rfl ?_
    refine g_dup2 C dX0_passForLoan_42 rfl rfl ?_
    refine g_ialdN (cA := cI) (n := 8) (a := h 6) (f := σ.2 5) q 6 0 C rfl rfl (by omega) (by decide) dX0_passForLoan_43 ?_
    refine g_iload_n 1 C rfl dX0_passForLoan_44 rfl ?_
    refine g_iadd C dX0_passForLoan_45 ?_
    refine g_iastN (cA := cI) (n := 8) (a := h 6) (f := σ.2 5) (x := ((σ.2 5 q) + (lentD σ d q))) q 6 0 (wA cI h (sA σ 5 (upd (σ.2 5) q (((σ.2 5 q) + (lentD σ d q)))))) C rfl rfl (by omega) (by decide) rfl dX0_passForLoan_46 ?_
    refine g_aload_n 2 C rfl dX0_passForLoan_47 rfl ?_
    refine g_get (C0 := RX0) (T := TX0) (N := 17) 0 0 16 (.ref (h 12)) C hin rfl rfl (by decide) (by decide +kernel) rfl dX0_passForLoan_48 ?_
    refine g_iload 0 C rfl dX0_passForLoan_51 ?_
    refine g_dup2 C dX0_passForLoan_53 rfl rfl ?_
    refine g_ialdN (cA := cI) (n := 4) (a := h 12) (f := σ.2 11) j 12 0 C rfl rfl (by omega) (by decide) dX0_passForLoan_54 ?_
    refine g_iload_n 1 C rfl dX0_passForLoan_55 rfl ?_
    refine g_aload_n 2 C rfl dX0_passForLoan_56 rfl ?_
    refine g_get (C0 := RX0) (T := TX0) (N := 17) 0 0 14 (.ref (h 10)) C hin rfl rfl (by decide) (by decide +kernel) rfl dX0_passForLoan_57 ?_
    refine g_iload_n 3 C rfl dX0_passForLoan_60 rfl ?_
    refine g_ialdN (cA := cI) (n := 8) (a := h 10) (f := σ.2 9) q 10 0 C rfl rfl (by omega) (by decide) dX0_passForLoan_61 ?_
    refine g_imul C dX0_passForLoan_62 ?_
    refine g_iadd C dX0_passForLoan_63 ?_
    refine g_iastN (cA := cI) (n := 4) (a := h 12) (f := σ.2 11) (x := ((σ.2 11 j) + ((lentD σ d q) * (σ.2 9 q)))) j 12 0 (wA cI h (sA (sA σ 5 (upd (σ.2 5) q (((σ.2 5 q) + (lentD σ d q))))) 11 (upd (σ.2 11) j (((σ.2 11 j) + ((lentD σ d q) * (σ.2 9 q))))))) C rfl rfl (by omega) (by decide) rfl dX0_passForLoan_64 ?_
    refine g_aload_n 2 C rfl dX0_passForLoan_65 rfl ?_
    refine g_get (C0 := RX0) (T := TX0) (N := 17) 0 0 12 (.ref (h 8)) C hin rfl rfl (by decide) (by decide +kernel) rfl dX0_passForLoan_66 ?_
    refine g_iload_n 3 C rfl dX0_passForLoan_69 rfl ?_
    refine g_dup2 C dX0_passForLoan_70 rfl rfl ?_
    refine g_ialdN (cA := cI) (n := 8) (a := h 8) (f := σ.2 7) q 8 0 C rfl rfl (by omega) (by decide) dX0_passForLoan_71 ?_
    refine g_iload_n 1 C rfl dX0_passForLoan_72 rfl ?_
    refine g_isub C dX0_passForLoan_73 ?_
    refine g_iastN (cA := cI) (n := 8) (a := h 8) (f := σ.2 7) (x := ((σ.2 7 q) - (lentD σ d q))) q 8 0 (wA cI h (sA (sA (sA σ 5 (upd (σ.2 5) q (((σ.2 5 q) + (lentD σ d q))))) 11 (upd (σ.2 11) j (((σ.2 11 j) + ((lentD σ d q) * (σ.2 9 q)))))) 7 (upd (σ.2 7) q (((σ.2 7 q) - (lentD σ d q)))))) C rfl rfl (by omega) (by decide) rfl dX0_passForLoan_74 ?_
    exact g_vret C hr dX0_passForLoan_75 (Nat.zero_le _) (Nat.zero_le _) rfl rfl (by rw [pfl, ej, cl_nI (by omega), if_neg c_34_1])
