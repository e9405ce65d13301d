/-! The law from its entry. -/
set_option maxRecDepth 100000 in
set_option maxHeartbeats 4000000 in
theorem xe_start {s : State} {b : Nat} (hts : ∀ w ∈ lw_tbl, w.before #[Value.ref b] s = true) (hgv : (Jvm.Cond.and given_1 narrow_1).before #[Value.ref b] s = true) : XE (fun q : Nat => s.heap.size ≤ q) s := by
  have hs := flat_of_before _ hgv
  have hnA : ∀ a : Nat, a < s.heap.size → ¬ (fun q : Nat => s.heap.size ≤ q) a := fun a h => Nat.not_le.mpr h
  refine ⟨vx_Zqof (hts (.laysStatic Bundle.tN "UNASSIGNED_STACK" Bundle.steD) (by decide +kernel)) (hts (.initialized Bundle.tN) (by decide +kernel)) (hs (.isRef (.static Bundle.tN "UNASSIGNED_STACK" Bundle.steD)) (by decide +kernel)) hnA, vx_Zqof (hts (.laysStatic Bundle.tN "SUPPRESSED_SENTINEL" Bundle.listD) (by decide +kernel)) (hts (.initialized Bundle.tN) (by decide +kernel)) (hs (.isRef (.static Bundle.tN "SUPPRESSED_SENTINEL" Bundle.listD)) (by decide +kernel)) hnA, ?_, ?_, trivial⟩
  · intro q hq
    simp only [xeStr, List.mem_cons, List.not_mem_nil, or_false] at hq
    rcases hq with rfl | rfl | rfl | rfl | rfl | rfl | rfl | rfl | rfl | rfl | rfl | rfl | rfl | rfl | rfl
    · obtain ⟨a, -, -, -, q1, -⟩ := Cond.exactly_spec (args := #[Value.ref b]) (first := s) (o := none) (s := s) (idx := []) (t := .string RX0 56) (cls := "java/lang/String") (hs _ (by decide +kernel))
      exact ⟨a, vk_R.of (A := #[Value.ref b]) (hts (.stringRef RX0 56 "no more pigments") (by decide +kernel)) q1⟩
    · obtain ⟨a, -, -, -, q1, -⟩ := Cond.exactly_spec (args := #[Value.ref b]) (first := s) (o := none) (s := s) (idx := []) (t := .string RX0 71) (cls := "java/lang/String") (hs _ (by decide +kernel))
      exact ⟨a, vk_R.of (A := #[Value.ref b]) (hts (.stringRef RX0 71 "no more tubes") (by decide +kernel)) q1⟩
    · obtain ⟨a, -, -, -, q1, -⟩ := Cond.exactly_spec (args := #[Value.ref b]) (first := s) (o := none) (s := s) (idx := []) (t := .string RX0 76) (cls := "java/lang/String") (hs _ (by decide +kernel))
      exact ⟨a, vk_R.of (A := #[Value.ref b]) (hts (.stringRef RX0 76 "no more pots") (by decide +kernel)) q1⟩
    · obtain ⟨a, -, -, -, q1, -⟩ := Cond.exactly_spec (args := #[Value.ref b]) (first := s) (o := none) (s := s) (idx := []) (t := .string RX0 78) (cls := "java/lang/String") (hs _ (by decide +kernel))
      exact ⟨a, vk_R.of (A := #[Value.ref b]) (hts (.stringRef RX0 78 "the tube has not so much") (by decide +kernel)) q1⟩
    · obtain ⟨a, -, -, -, q1, -⟩ := Cond.exactly_spec (args := #[Value.ref b]) (first := s) (o := none) (s := s) (idx := []) (t := .string RX0 90) (cls := "java/lang/String") (hs _ (by decide +kernel))
      exact ⟨a, vk_R.of (A := #[Value.ref b]) (hts (.stringRef RX0 90 "the pots are the same") (by decide +kernel)) q1⟩
    · obtain ⟨a, -, -, -, q1, -⟩ := Cond.exactly_spec (args := #[Value.ref b]) (first := s) (o := none) (s := s) (idx := []) (t := .string RX0 97) (cls := "java/lang/String") (hs _ (by decide +kernel))
      exact ⟨a, vk_R.of (A := #[Value.ref b]) (hts (.stringRef RX0 97 "the pot has not so much") (by decide +kernel)) q1⟩
    · obtain ⟨a, -, -, -, q1, -⟩ := Cond.exactly_spec (args := #[Value.ref b]) (first := s) (o := none) (s := s) (idx := []) (t := .string RX0 108) (cls := "java/lang/String") (hs _ (by decide +kernel))
      exact ⟨a, vk_R.of (A := #[Value.ref b]) (hts (.stringRef RX0 108 "no more pictures") (by decide +kernel)) q1⟩
    · obtain ⟨a, -, -, -, q1, -⟩ := Cond.exactly_spec (args := #[Value.ref b]) (first := s) (o := none) (s := s) (idx := []) (t := .string RX0 114) (cls := "java/lang/String") (hs _ (by decide +kernel))
      exact ⟨a, vk_R.of (A := #[Value.ref b]) (hts (.stringRef RX0 114 "no more layers") (by decide +kernel)) q1⟩
    · obtain ⟨a, -, -, -, q1, -⟩ := Cond.exactly_spec (args := #[Value.ref b]) (first := s) (o := none) (s := s) (idx := []) (t := .string RX0 119) (cls := "java/lang/String") (hs _ (by decide +kernel))
      exact ⟨a, vk_R.of (A := #[Value.ref b]) (hts (.stringRef RX0 119 "the picture has not so many layers") (by decide +kernel)) q1⟩
    · obtain ⟨a, -, -, -, q1, -⟩ := Cond.exactly_spec (args := #[Value.ref b]) (first := s) (o := none) (s := s) (idx := []) (t := .string RX0 121) (cls := "java/lang/String") (hs _ (by decide +kernel))
      exact ⟨a, vk_R.of (A := #[Value.ref b]) (hts (.stringRef RX0 121 "the picture has too many cracks") (by decide +kernel)) q1⟩
    · obtain ⟨a, -, -, -, q1, -⟩ := Cond.exactly_spec (args := #[Value.ref b]) (first := s) (o := none) (s := s) (idx := []) (t := .string RX0 127) (cls := "java/lang/String") (hs _ (by decide +kernel))
      exact ⟨a, vk_R.of (A := #[Value.ref b]) (hts (.stringRef RX0 127 "the picture has no layer") (by decide +kernel)) q1⟩
    · obtain ⟨a, -, -, -, q1, -⟩ := Cond.exactly_spec (args := #[Value.ref b]) (first := s) (o := none) (s := s) (idx := []) (t := .string RX0 132) (cls := "java/lang/String") (hs _ (by decide +kernel))
      exact ⟨a, vk_R.of (A := #[Value.ref b]) (hts (.stringRef RX0 132 "the book ends before that day") (by decide +kernel)) q1⟩
    · obtain ⟨a, -, -, -, q1, -⟩ := Cond.exactly_spec (args := #[Value.ref b]) (first := s) (o := none) (s := s) (idx := []) (t := .string RX0 163) (cls := "java/lang/String") (hs _ (by decide +kernel))
      exact ⟨a, vk_R.of (A := #[Value.ref b]) (hts (.stringRef RX0 163 "there is no such number") (by decide +kernel)) q1⟩
    · obtain ⟨a, -, -, -, q1, -⟩ := Cond.exactly_spec (args := #[Value.ref b]) (first := s) (o := none) (s := s) (idx := []) (t := .string RX0 166) (cls := "java/lang/String") (hs _ (by decide +kernel))
      exact ⟨a, vk_R.of (A := #[Value.ref b]) (hts (.stringRef RX0 166 "out of range") (by decide +kernel)) q1⟩
    · obtain ⟨a, -, -, -, q1, -⟩ := Cond.exactly_spec (args := #[Value.ref b]) (first := s) (o := none) (s := s) (idx := []) (t := .string RX0 168) (cls := "java/lang/String") (hs _ (by decide +kernel))
      exact ⟨a, vk_R.of (A := #[Value.ref b]) (hts (.stringRef RX0 168 "the picture is lent") (by decide +kernel)) q1⟩
  · intro w hw
    have hin : ∀ w ∈ xeB, w ∈ lw_tbl := by decide +kernel
    exact va_Nw.of (xeB_tab w hw) (hts w (hin w hw))
set_option maxRecDepth 100000 in
set_option maxHeartbeats 4000000 in
/-- THE LAW, from its entry -/
theorem whole_start {p : Program} {e : Env} {s : State} {m : MethodId} {below : List Frame} {meth : Method} {c : Code} (l : Launch) (hflags : l.flags = flags0) {b L : Nat} {xs : Nat → Int32} (hL : L ≤ 260) (C0 : lw_At p s m meth c b L xs) : W p l e room_1 s m #[Value.ref b] below meth c s.heap [] 0 0 (lw_Z below #[Value.ref b] s) (entryFrame m ([Value.ref b] : List Value).toArray 18) := by
  obtain ⟨hx, hb, hr, hml, hown, hts, hX, hbl, hlocks, hgv⟩ := id C0
  have hst : l.stackTraces = false := by unfold Launch.stackTraces; rw [hflags]; decide +kernel
  have htsL : ∀ w ∈ wsL_law, w.before #[Value.ref b] s = true := fun w h => hts w (wsL_law_in w h)
  have hXE := xe_start hts hgv
  obtain ⟨c0, iS0, hKn0⟩ := u_known (C := RX0) (T := TX0) (N := 17) (n := 17) htsL inlX0 (hts (.instantiable RX0 17) (by decide +kernel))
  obtain ⟨cI, hI1, hI2⟩ := arr_of (hts (.arrayClass .int) (by decide +kernel))
  obtain ⟨cJ, hJ⟩ : ∃ x : ClassId, x = cI := ⟨_, rfl⟩
  obtain ⟨dC, dI, hKc⟩ : ∃ (dC : Nat → ClassId) (dI : Nat → Nat → Nat), ∀ (k : Nat) (q : vw_C), vwCl[k]? = some q → u_Kn s q.1 q.2.1 q.2.2 (dC k) (dI k) := by
    refine ⟨fun k => c0, fun k => iS0, ?_⟩
    intro k q hq
    match k, hq with
    | 0, hq => cases hq; exact hKn0
    | k + 1, hq => simp [vwCl] at hq
  have hK : va_K (dC, dI) vwCl (tyIJ cI cJ) s := by
    refine ⟨hKc, fun k q h => ?_⟩
    match k, h with
    | 0, h => cases h; exact ⟨hI1, hI2⟩
    | k + 1, h => simp [tyIJ] at h
  have C : gC p s m #[Value.ref b] meth c cL_law 18 RL wsL_law (dC, dI) (tyIJ cI cJ) (fun q : Nat => s.heap.size ≤ q) := ⟨hx, hb, hml, hown, htsL, hK, fun _ h => h, hlocks, hXE⟩
  have hl := lv_entry ([.ref b]) (n := 18) (Nat.le_of_ble_eq_true rfl)
  rw [lg_entry_eq]
  have hP0 : va_P (dC, dI) vwCl [] s.heap := fun k q h => by simp at h
  have hD0 : va_D (fun q : Nat => s.heap.size ≤ q) [] := ⟨fun i j p q h => by simp at h, fun k q h => by simp at h⟩
  suffices H : G p l e room_1 s m #[Value.ref b] below meth c (dC, dI) (fun q : Nat => s.heap.size ≤ q) 18 0 0 (lw_Z below #[Value.ref b] s) [] [(0, .ref b)] 0 [] from H s.heap [] _ hP0 hD0 va_S.rf hl
  refine g_new (C0 := RX0) (T := TX0) (N := 17) 0 [.int 0, .int 0, .int 0, .int 0, .int 0, .null, .null, .null, .null, .null, .null, .null, .null, .null, .null, .null, .null] C inlX0 tyX0_ok (by decide +kernel) (by decide +kernel) (by decide +kernel) rfl (by decide) (by decide) (by decide) dL_law_0 (fun q0 => ?_)
  refine g_dup C dL_law_3 rfl ?_
  refine g_callI (wl := []) (c_init l (dC, dI) cI cJ q0) C gL_law_X0_init rfl (by decide +kernel) (by decide +kernel) (by decide +kernel) rfl (by decide +kernel) ⟨by decide, by decide⟩ rfl (Nat.le_of_ble_eq_true rfl) ⟨by decide, by decide⟩ dL_law_4 (fun h hh => ?_)
  subst hh
  refine g_astore_n [(1, .ref (h 0)), (0, .ref b)] C dL_law_7 rfl (by decide) rfl ?_
  refine g_bipush 12 C dL_law_8 (by decide) ?_
  refine g_newa (cI := cI) 12 C rfl (by decide +kernel) (by decide) (by decide) (by decide) (by decide) (by decide) dL_law_10 (fun a0 => ?_)
  refine g_astore_n [(2, .ref a0), (1, .ref (h 0)), (0, .ref b)] C dL_law_12 rfl (by decide) rfl ?_
  refine g_bipush 18 C dL_law_13 (by decide) ?_
  refine g_newa (cI := cI) 18 C rfl (by decide +kernel) (by decide) (by decide) (by decide) (by decide) (by decide) dL_law_15 (fun a1 => ?_)
  refine g_astore_n [(3, .ref a1), (2, .ref a0), (1, .ref (h 0)), (0, .ref b)] C dL_law_17 rfl (by decide) rfl ?_
  refine g_bipush 24 C dL_law_18 (by decide) ?_
  refine g_newa (cI := cI) 24 C rfl (by decide +kernel) (by decide) (by decide) (by decide) (by decide) (by decide) dL_law_20 (fun a2 => ?_)
  refine g_astore [(4, .ref a2), (3, .ref a1), (2, .ref a0), (1, .ref (h 0)), (0, .ref b)] C dL_law_22 (by decide) rfl ?_
  refine g_bipush 12 C dL_law_24 (by decide) ?_
  refine g_newa (cI := cI) 12 C rfl (by decide +kernel) (by decide) (by decide) (by decide) (by decide) (by decide) dL_law_26 (fun a3 => ?_)
  refine g_astore [(5, .ref a3), (4, .ref a2), (3, .ref a1), (2, .ref a0), (1, .ref (h 0)), (0, .ref b)] C dL_law_28 (by decide) rfl ?_
  refine g_bipush 12 C dL_law_30 (by decide) ?_
  refine g_newa (cI := cI) 12 C rfl (by decide +kernel) (by decide) (by decide) (by decide) (by decide) (by decide) dL_law_32 (fun a4 => ?_)
  refine g_astore [(6, .ref a4), (5, .ref a3), (4, .ref a2), (3, .ref a1), (2, .ref a0), (1, .ref (h 0)), (0, .ref b)] C dL_law_34 (by decide) rfl ?_
  refine g_bipush 28 C dL_law_36 (by decide) ?_
  refine g_newa (cI := cI) 28 C rfl (by decide +kernel) (by decide) (by decide) (by decide) (by decide) (by decide) dL_law_38 (fun a5 => ?_)
  refine g_astore [(7, .ref a5), (6, .ref a4), (5, .ref a3), (4, .ref a2), (3, .ref a1), (2, .ref a0), (1, .ref (h 0)), (0, .ref b)] C dL_law_40 (by decide) rfl ?_
  refine g_bipush 8 C dL_law_42 (by decide) ?_
  refine g_newa (cI := cI) 8 C rfl (by decide +kernel) (by decide) (by decide) (by decide) (by decide) (by decide) dL_law_44 (fun a6 => ?_)
  refine g_astore [(8, .ref a6), (7, .ref a5), (6, .ref a4), (5, .ref a3), (4, .ref a2), (3, .ref a1), (2, .ref a0), (1, .ref (h 0)), (0, .ref b)] C dL_law_46 (by decide) rfl ?_
  refine g_bipush 6 C dL_law_48 (by decide) ?_
  refine g_newa (cI := cI) 6 C rfl (by decide +kernel) (by decide) (by decide) (by decide) (by decide) (by decide) dL_law_50 (fun a7 => ?_)
  refine g_astore [(9, .ref a7), (8, .ref a6), (7, .ref a5), (6, .ref a4), (5, .ref a3), (4, .ref a2), (3, .ref a1), (2, .ref a0), (1, .ref (h 0)), (0, .ref b)] C dL_law_52 (by decide) rfl ?_
  obtain ⟨g, hg⟩ : ∃ g : Nat → Nat, g = fun j => [a0, a1, a2, a3, a4, a5, a6, a7].getD j 0 := ⟨_, rfl⟩
  refine g_w (wB cI h g (sA σz 10 (fillF (fun _ => 0) (fun _ => 50) 4)) σz) (by rw [hg]; rfl) ?_
  refine g_lv [9, 8, 7, 6, 5, 4, 3, 2, 1, 0] [(0, .ref b), (1, .ref (h 0)), (2, .ref (g 0)), (3, .ref (g 1)), (4, .ref (g 2)), (5, .ref (g 3)), (6, .ref (g 4)), (7, .ref (g 5)), (8, .ref (g 6)), (9, .ref (g 7))] (by rw [hg]; rfl) ?_
  exact law_init hst C hr hX hbl hL _ _ I1_0
