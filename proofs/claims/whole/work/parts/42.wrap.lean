/-! The law's own calls of the book. -/
set_option maxRecDepth 100000 in
set_option maxHeartbeats 4000000 in
theorem c_w_pigment (l : Launch) (D : va_G) (cI cJ : ClassId) (hst : l.stackTraces = false) (h : Nat → Nat) (σ : gS) (np nt no ni : Nat) (hI : iA σ np nt no ni) (ho : Nat) (fo : Nat → Int64) (r g b : Int32) (K : Nat) (hK : K = th_pigment np r g b) : MC l yL_pigment wsL_pigment 9 158 D (tyIJ cI cJ) [.ref (h 0), .int r, .int g, .int b, .ref ho] (wO cI cJ h ho σ fo) (wO cI cJ h ho (kS K σ (s_pigment σ np r g b)) (kF K fo (nI np))) none (some (.int (nI (cdA K)))) (nT K) := by
  have hK4 : K = 0 ∨ K = 2 ∨ K = 3 := by
    rw [hK]; unfold th_pigment
    repeat' split
    all_goals simp
  refine MC.ofGH (cc := cL_pigment) (maxL := 6) (ret := some .int) (hh := [(0, 12, 15, 13), (0, 12, 19, 15)]) [(0, .ref (h 0)), (1, .int r), (2, .int g), (3, .int b), (4, .ref ho)] (by decide) rfl (Nat.le_of_ble_eq_true rfl) rfl ?_
  intro p e s m args below meth c C hr htab
  rcases hK4 with rfl | rfl | rfl
  ·
    refine g_aload 4 C rfl dL_pigment_0 ?_
    refine g_iconst 0 C dL_pigment_2 (by decide) ?_
    refine g_aload_n 0 C rfl dL_pigment_3 rfl ?_
    refine g_iload_n 1 C rfl dL_pigment_4 rfl ?_
    refine g_iload_n 2 C rfl dL_pigment_5 rfl ?_
    refine g_iload_n 3 C rfl dL_pigment_6 rfl ?_
    refine g_callVO (na := 3) (As := [.int r, .int g, .int b]) (c_pigment l D cI cJ hst h σ np nt no ni hI r g b 0 hK) C gL_pigment_X0_pigment rfl (by decide +kernel) rfl ⟨Nat.le_of_ble_eq_true rfl, Nat.le_of_ble_eq_true rfl⟩ rfl (Nat.le_of_ble_eq_true rfl) ⟨by decide, by decide⟩ dL_pigment_7 ?_
    refine g_i2l C dL_pigment_10 ?_
    refine g_last (cA := cJ) (n := 1) (a := ho) (f := fo) 13 1 (wO cI cJ h ho (s_pigment σ np r g b) (kF 0 fo (nI np))) C rfl rfl (vp_in_nI (n := 0) (N := 1) (by decide) (by decide)) rfl dL_pigment_11 ?_
    refine g_goto 23 C dL_pigment_12 (by decide) ?_
    refine g_iconst 0 C dL_pigment_23 (by decide) ?_
    exact g_iret C hr rfl dL_pigment_24 (by decide) (by decide) rfl rfl rfl
  ·
    refine g_aload 4 C rfl dL_pigment_0 ?_
    refine g_iconst 0 C dL_pigment_2 (by decide) ?_
    refine g_aload_n 0 C rfl dL_pigment_3 rfl ?_
    refine g_iload_n 1 C rfl dL_pigment_4 rfl ?_
    refine g_iload_n 2 C rfl dL_pigment_5 rfl ?_
    refine g_iload_n 3 C rfl dL_pigment_6 rfl ?_
    refine g_callVOC (na := 3) (As := [.int r, .int g, .int b]) (E := eIAE) (c_pigment l D cI cJ hst h σ np nt no ni hI r g b 2 hK) C gL_pigment_X0_pigment rfl (by decide +kernel) rfl ⟨Nat.le_of_ble_eq_true rfl, Nat.le_of_ble_eq_true rfl⟩ rfl (Nat.le_of_ble_eq_true rfl) ⟨by decide, by decide⟩ dL_pigment_7 htab [] ⟨0, 12, 15, 13⟩ [⟨0, 12, 19, 15⟩] rfl (fun z hz => absurd hz List.not_mem_nil) (by decide) (by decide) (by decide +kernel) (by decide +kernel) (fun xq => ?_)
    refine g_astore [(5, .ref xq), (0, .ref (h 0)), (1, .int r), (2, .int g), (3, .int b), (4, .ref ho)] C dL_pigment_15 (by decide) rfl ?_
    refine g_iconst 1 C dL_pigment_17 (by decide) ?_
    exact g_iret C hr rfl dL_pigment_18 (by decide) (by decide) rfl rfl rfl
  ·
    refine g_aload 4 C rfl dL_pigment_0 ?_
    refine g_iconst 0 C dL_pigment_2 (by decide) ?_
    refine g_aload_n 0 C rfl dL_pigment_3 rfl ?_
    refine g_iload_n 1 C rfl dL_pigment_4 rfl ?_
    refine g_iload_n 2 C rfl dL_pigment_5 rfl ?_
    refine g_iload_n 3 C rfl dL_pigment_6 rfl ?_
    refine g_callVOC (na := 3) (As := [.int r, .int g, .int b]) (E := eISE) (c_pigment l D cI cJ hst h σ np nt no ni hI r g b 3 hK) C gL_pigment_X0_pigment rfl (by decide +kernel) rfl ⟨Nat.le_of_ble_eq_true rfl, Nat.le_of_ble_eq_true rfl⟩ rfl (Nat.le_of_ble_eq_true rfl) ⟨by decide, by decide⟩ dL_pigment_7 htab [⟨0, 12, 15, 13⟩] ⟨0, 12, 19, 15⟩ [] rfl (fun z hz => by rw [List.mem_singleton.mp hz]; exact ⟨by decide, eIAE, by decide +kernel, C.2.2.2.2.2.2.2.2.2.2.2.2.2.2⟩) (by decide) (by decide) (by decide +kernel) (by decide +kernel) (fun xq => ?_)
    refine g_astore [(5, .ref xq), (0, .ref (h 0)), (1, .int r), (2, .int g), (3, .int b), (4, .ref ho)] C dL_pigment_19 (by decide) rfl ?_
    refine g_iconst 2 C dL_pigment_21 (by decide) ?_
    exact g_iret C hr rfl dL_pigment_22 (by decide) (by decide) rfl rfl rfl
set_option maxRecDepth 100000 in
set_option maxHeartbeats 4000000 in
theorem c_w_tube (l : Launch) (D : va_G) (cI cJ : ClassId) (hst : l.stackTraces = false) (h : Nat → Nat) (σ : gS) (np nt no ni : Nat) (hI : iA σ np nt no ni) (ho : Nat) (fo : Nat → Int64) (x g : Int32) (K : Nat) (hK : K = th_tube np nt x g) : MC l yL_tube wsL_tube 8 134 D (tyIJ cI cJ) [.ref (h 0), .int x, .int g, .ref ho] (wO cI cJ h ho σ fo) (wO cI cJ h ho (kS K σ (s_tube σ nt x g)) (kF K fo (nI nt))) none (some (.int (nI (cdI K)))) (nT K) := by
  have hK4 : K = 0 ∨ K = 1 ∨ K = 2 ∨ K = 3 := by
    rw [hK]; unfold th_tube
    repeat' split
    all_goals simp
  refine MC.ofGH (cc := cL_tube) (maxL := 5) (ret := some .int) (hh := [(0, 10, 13, 21), (0, 10, 17, 13), (0, 10, 21, 15)]) [(0, .ref (h 0)), (1, .int x), (2, .int g), (3, .ref ho)] (by decide) rfl (Nat.le_of_ble_eq_true rfl) rfl ?_
  intro p e s m args below meth c C hr htab
  rcases hK4 with rfl | rfl | rfl | rfl
  ·
    refine g_aload_n 3 C rfl dL_tube_0 rfl ?_
    refine g_iconst 0 C dL_tube_1 (by decide) ?_
    refine g_aload_n 0 C rfl dL_tube_2 rfl ?_
    refine g_iload_n 1 C rfl dL_tube_3 rfl ?_
    refine g_iload_n 2 C rfl dL_tube_4 rfl ?_
    refine g_callVO (na := 2) (As := [.int x, .int g]) (c_tube l D cI cJ hst h σ np nt no ni hI x g 0 hK) C gL_tube_X0_tube rfl (by decide +kernel) rfl ⟨Nat.le_of_ble_eq_true rfl, Nat.le_of_ble_eq_true rfl⟩ rfl (Nat.le_of_ble_eq_true rfl) ⟨by decide, by decide⟩ dL_tube_5 ?_
    refine g_i2l C dL_tube_8 ?_
    refine g_last (cA := cJ) (n := 1) (a := ho) (f := fo) 13 1 (wO cI cJ h ho (s_tube σ nt x g) (kF 0 fo (nI nt))) C rfl rfl (vp_in_nI (n := 0) (N := 1) (by decide) (by decide)) rfl dL_tube_9 ?_
    refine g_goto 25 C dL_tube_10 (by decide) ?_
    refine g_iconst 0 C dL_tube_25 (by decide) ?_
    exact g_iret C hr rfl dL_tube_26 (by decide) (by decide) rfl rfl rfl
  ·
    refine g_aload_n 3 C rfl dL_tube_0 rfl ?_
    refine g_iconst 0 C dL_tube_1 (by decide) ?_
    refine g_aload_n 0 C rfl dL_tube_2 rfl ?_
    refine g_iload_n 1 C rfl dL_tube_3 rfl ?_
    refine g_iload_n 2 C rfl dL_tube_4 rfl ?_
    refine g_callVOC (na := 2) (As := [.int x, .int g]) (E := eIOB) (c_tube l D cI cJ hst h σ np nt no ni hI x g 1 hK) C gL_tube_X0_tube rfl (by decide +kernel) rfl ⟨Nat.le_of_ble_eq_true rfl, Nat.le_of_ble_eq_true rfl⟩ rfl (Nat.le_of_ble_eq_true rfl) ⟨by decide, by decide⟩ dL_tube_5 htab [] ⟨0, 10, 13, 21⟩ [⟨0, 10, 17, 13⟩, ⟨0, 10, 21, 15⟩] rfl (fun z hz => absurd hz List.not_mem_nil) (by decide) (by decide) (by decide +kernel) (by decide +kernel) (fun xq => ?_)
    refine g_astore [(4, .ref xq), (0, .ref (h 0)), (1, .int x), (2, .int g), (3, .ref ho)] C dL_tube_13 (by decide) rfl ?_
    refine g_iconst 1 C dL_tube_15 (by decide) ?_
    exact g_iret C hr rfl dL_tube_16 (by decide) (by decide) rfl rfl rfl
  ·
    refine g_aload_n 3 C rfl dL_tube_0 rfl ?_
    refine g_iconst 0 C dL_tube_1 (by decide) ?_
    refine g_aload_n 0 C rfl dL_tube_2 rfl ?_
    refine g_iload_n 1 C rfl dL_tube_3 rfl ?_
    refine g_iload_n 2 C rfl dL_tube_4 rfl ?_
    refine g_callVOC (na := 2) (As := [.int x, .int g]) (E := eIAE) (c_tube l D cI cJ hst h σ np nt no ni hI x g 2 hK) C gL_tube_X0_tube rfl (by decide +kernel) rfl ⟨Nat.le_of_ble_eq_true rfl, Nat.le_of_ble_eq_true rfl⟩ rfl (Nat.le_of_ble_eq_true rfl) ⟨by decide, by decide⟩ dL_tube_5 htab [⟨0, 10, 13, 21⟩] ⟨0, 10, 17, 13⟩ [⟨0, 10, 21, 15⟩] rfl (fun z hz => by rw [List.mem_singleton.mp hz]; exact ⟨by decide, eIOB, by decide +kernel, C.2.2.2.2.2.2.2.2.2.2.2.2.1⟩) (by decide) (by decide) (by decide +kernel) (by decide +kernel) (fun xq => ?_)
    refine g_astore [(4, .ref xq), (0, .ref (h 0)), (1, .int x), (2, .int g), (3, .ref ho)] C dL_tube_17 (by decide) rfl ?_
    refine g_iconst 2 C dL_tube_19 (by decide) ?_
    exact g_iret C hr rfl dL_tube_20 (by decide) (by decide) rfl rfl rfl
  ·
    refine g_aload_n 3 C rfl dL_tube_0 rfl ?_
    refine g_iconst 0 C dL_tube_1 (by decide) ?_
    refine g_aload_n 0 C rfl dL_tube_2 rfl ?_
    refine g_iload_n 1 C rfl dL_tube_3 rfl ?_
    refine g_iload_n 2 C rfl dL_tube_4 rfl ?_
    refine g_callVOC (na := 2) (As := [.int x, .int g]) (E := eISE) (c_tube l D cI cJ hst h σ np nt no ni hI x g 3 hK) C gL_tube_X0_tube rfl (by decide +kernel) rfl ⟨Nat.le_of_ble_eq_true rfl, Nat.le_of_ble_eq_true rfl⟩ rfl (Nat.le_of_ble_eq_true rfl) ⟨by decide, by decide⟩ dL_tube_5 htab [⟨0, 10, 13, 21⟩, ⟨0, 10, 17, 13⟩] ⟨0, 10, 21, 15⟩ [] rfl (fun z hz => (List.mem_cons.mp hz).elim (fun e9 => e9 ▸ ⟨by decide, eIOB, by decide +kernel, C.2.2.2.2.2.2.2.2.2.2.2.2.2.1⟩) (fun hz => (List.mem_singleton.mp hz) ▸ ⟨by decide, eIAE, by decide +kernel, C.2.2.2.2.2.2.2.2.2.2.2.2.2.2⟩)) (by decide) (by decide) (by decide +kernel) (by decide +kernel) (fun xq => ?_)
    refine g_astore [(4, .ref xq), (0, .ref (h 0)), (1, .int x), (2, .int g), (3, .ref ho)] C dL_tube_21 (by decide) rfl ?_
    refine g_iconst 3 C dL_tube_23 (by decide) ?_
    exact g_iret C hr rfl dL_tube_24 (by decide) (by decide) rfl rfl rfl
set_option maxRecDepth 100000 in
set_option maxHeartbeats 4000000 in
theorem c_w_pot (l : Launch) (D : va_G) (cI cJ : ClassId) (hst : l.stackTraces = false) (h : Nat → Nat) (σ : gS) (np nt no ni : Nat) (hI : iA σ np nt no ni) (ho : Nat) (fo : Nat → Int64)  (K : Nat) (hK : K = th_pot no) : MC l yL_pot wsL_pot 7 110 D (tyIJ cI cJ) [.ref (h 0), .ref ho] (wO cI cJ h ho σ fo) (wO cI cJ h ho (kS K σ (sS σ 2 (nI (no + 1)))) (kF K fo (nI no))) none (some (.int (nI (cdS K)))) (nT K) := by
  have hK4 : K = 0 ∨ K = 3 := by
    rw [hK]; unfold th_pot
    repeat' split
    all_goals simp
  refine MC.ofGH (cc := cL_pot) (maxL := 3) (ret := some .int) (hh := [(0, 8, 11, 15)]) [(0, .ref (h 0)), (1, .ref ho)] (by decide) rfl (Nat.le_of_ble_eq_true rfl) rfl ?_
  intro p e s m args below meth c C hr htab
  rcases hK4 with rfl | rfl
  ·
    refine g_aload_n 1 C rfl dL_pot_0 rfl ?_
    refine g_iconst 0 C dL_pot_1 (by decide) ?_
    refine g_aload_n 0 C rfl dL_pot_2 rfl ?_
    refine g_callVO (na := 0) (As := []) (c_pot l D cI cJ hst h σ np nt no ni hI  0 hK) C gL_pot_X0_pot rfl (by decide +kernel) rfl ⟨Nat.le_of_ble_eq_true rfl, Nat.le_of_ble_eq_true rfl⟩ rfl (Nat.le_of_ble_eq_true rfl) ⟨by decide, by decide⟩ dL_pot_3 ?_
    refine g_i2l C dL_pot_6 ?_
    refine g_last (cA := cJ) (n := 1) (a := ho) (f := fo) 13 1 (wO cI cJ h ho (sS σ 2 (nI (no + 1))) (kF 0 fo (nI no))) C rfl rfl (vp_in_nI (n := 0) (N := 1) (by decide) (by decide)) rfl dL_pot_7 ?_
    refine g_goto 14 C dL_pot_8 (by decide) ?_
    refine g_iconst 0 C dL_pot_14 (by decide) ?_
    exact g_iret C hr rfl dL_pot_15 (by decide) (by decide) rfl rfl rfl
  ·
    refine g_aload_n 1 C rfl dL_pot_0 rfl ?_
    refine g_iconst 0 C dL_pot_1 (by decide) ?_
    refine g_aload_n 0 C rfl dL_pot_2 rfl ?_
    refine g_callVOC (na := 0) (As := []) (E := eISE) (c_pot l D cI cJ hst h σ np nt no ni hI  3 hK) C gL_pot_X0_pot rfl (by decide +kernel) rfl ⟨Nat.le_of_ble_eq_true rfl, Nat.le_of_ble_eq_true rfl⟩ rfl (Nat.le_of_ble_eq_true rfl) ⟨by decide, by decide⟩ dL_pot_3 htab [] ⟨0, 8, 11, 15⟩ [] rfl (fun z hz => absurd hz List.not_mem_nil) (by decide) (by decide) (by decide +kernel) (by decide +kernel) (fun xq => ?_)
    refine g_astore_n [(2, .ref xq), (0, .ref (h 0)), (1, .ref ho)] C dL_pot_11 rfl (by decide) rfl ?_
    refine g_iconst 1 C dL_pot_12 (by decide) ?_
    exact g_iret C hr rfl dL_pot_13 (by decide) (by decide) rfl rfl rfl
set_option maxRecDepth 100000 in
set_option maxHeartbeats 4000000 in
theorem c_w_squeeze (l : Launch) (D : va_G) (cI cJ : ClassId) (hst : l.stackTraces = false) (h : Nat → Nat) (σ : gS) (np nt no ni : Nat) (hI : iA σ np nt no ni) (ho : Nat) (fo : Nat → Int64) (x t g : Int32) (K : Nat) (hK : K = th_squeeze σ nt no x t g) : MC l yL_squeeze wsL_squeeze 8 135 D (tyIJ cI cJ) [.ref (h 0), .int x, .int t, .int g, .ref ho] (wO cI cJ h ho σ fo) (wO cI cJ h ho (kS K σ (s_squeeze σ (cl x) (cl t) g)) (kF K fo (σ.2 2 (cl t) - g))) none (some (.int (nI (cdI K)))) (nT K) := by
  have hK4 : K = 0 ∨ K = 1 ∨ K = 2 ∨ K = 3 := by
    rw [hK]; unfold th_squeeze
    repeat' split
    all_goals simp
  refine MC.ofGH (cc := cL_squeeze) (maxL := 6) (ret := some .int) (hh := [(0, 12, 15, 21), (0, 12, 19, 13), (0, 12, 23, 15)]) [(0, .ref (h 0)), (1, .int x), (2, .int t), (3, .int g), (4, .ref ho)] (by decide) rfl (Nat.le_of_ble_eq_true rfl) rfl ?_
  intro p e s m args below meth c C hr htab
  rcases hK4 with rfl | rfl | rfl | rfl
  ·
    refine g_aload 4 C rfl dL_squeeze_0 ?_
    refine g_iconst 0 C dL_squeeze_2 (by decide) ?_
    refine g_aload_n 0 C rfl dL_squeeze_3 rfl ?_
    refine g_iload_n 1 C rfl dL_squeeze_4 rfl ?_
    refine g_iload_n 2 C rfl dL_squeeze_5 rfl ?_
    refine g_iload_n 3 C rfl dL_squeeze_6 rfl ?_
    refine g_callVO (na := 3) (As := [.int x, .int t, .int g]) (c_squeeze l D cI cJ hst h σ np nt no ni hI x t g 0 hK) C gL_squeeze_X0_squeeze rfl (by decide +kernel) rfl ⟨Nat.le_of_ble_eq_true rfl, Nat.le_of_ble_eq_true rfl⟩ rfl (Nat.le_of_ble_eq_true rfl) ⟨by decide, by decide⟩ dL_squeeze_7 ?_
    refine g_i2l C dL_squeeze_10 ?_
    refine g_last (cA := cJ) (n := 1) (a := ho) (f := fo) 13 1 (wO cI cJ h ho (s_squeeze σ (cl x) (cl t) g) (kF 0 fo (σ.2 2 (cl t) - g))) C rfl rfl (vp_in_nI (n := 0) (N := 1) (by decide) (by decide)) rfl dL_squeeze_11 ?_
    refine g_goto 27 C dL_squeeze_12 (by decide) ?_
    refine g_iconst 0 C dL_squeeze_27 (by decide) ?_
    exact g_iret C hr rfl dL_squeeze_28 (by decide) (by decide) rfl rfl rfl
  ·
    refine g_aload 4 C rfl dL_squeeze_0 ?_
    refine g_iconst 0 C dL_squeeze_2 (by decide) ?_
    refine g_aload_n 0 C rfl dL_squeeze_3 rfl ?_
    refine g_iload_n 1 C rfl dL_squeeze_4 rfl ?_
    refine g_iload_n 2 C rfl dL_squeeze_5 rfl ?_
    refine g_iload_n 3 C rfl dL_squeeze_6 rfl ?_
    refine g_callVOC (na := 3) (As := [.int x, .int t, .int g]) (E := eIOB) (c_squeeze l D cI cJ hst h σ np nt no ni hI x t g 1 hK) C gL_squeeze_X0_squeeze rfl (by decide +kernel) rfl ⟨Nat.le_of_ble_eq_true rfl, Nat.le_of_ble_eq_true rfl⟩ rfl (Nat.le_of_ble_eq_true rfl) ⟨by decide, by decide⟩ dL_squeeze_7 htab [] ⟨0, 12, 15, 21⟩ [⟨0, 12, 19, 13⟩, ⟨0, 12, 23, 15⟩] rfl (fun z hz => absurd hz List.not_mem_nil) (by decide) (by decide) (by decide +kernel) (by decide +kernel) (fun xq => ?_)
    refine g_astore [(5, .ref xq), (0, .ref (h 0)), (1, .int x), (2, .int t), (3, .int g), (4, .ref ho)] C dL_squeeze_15 (by decide) rfl ?_
    refine g_iconst 1 C dL_squeeze_17 (by decide) ?_
    exact g_iret C hr rfl dL_squeeze_18 (by decide) (by decide) rfl rfl rfl
  ·
    refine g_aload 4 C rfl dL_squeeze_0 ?_
    refine g_iconst 0 C dL_squeeze_2 (by decide) ?_
    refine g_aload_n 0 C rfl dL_squeeze_3 rfl ?_
    refine g_iload_n 1 C rfl dL_squeeze_4 rfl ?_
    refine g_iload_n 2 C rfl dL_squeeze_5 rfl ?_
    refine g_iload_n 3 C rfl dL_squeeze_6 rfl ?_
    refine g_callVOC (na := 3) (As := [.int x, .int t, .int g]) (E := eIAE) (c_squeeze l D cI cJ hst h σ np nt no ni hI x t g 2 hK) C gL_squeeze_X0_squeeze rfl (by decide +kernel) rfl ⟨Nat.le_of_ble_eq_true rfl, Nat.le_of_ble_eq_true rfl⟩ rfl (Nat.le_of_ble_eq_true rfl) ⟨by decide, by decide⟩ dL_squeeze_7 htab [⟨0, 12, 15, 21⟩] ⟨0, 12, 19, 13⟩ [⟨0, 12, 23, 15⟩] rfl (fun z hz => by rw [List.mem_singleton.mp hz]; exact ⟨by decide, eIOB, by decide +kernel, C.2.2.2.2.2.2.2.2.2.2.2.2.1⟩) (by decide) (by decide) (by decide +kernel) (by decide +kernel) (fun xq => ?_)
    refine g_astore [(5, .ref xq), (0, .ref (h 0)), (1, .int x), (2, .int t), (3, .int g), (4, .ref ho)] C dL_squeeze_19 (by decide) rfl ?_
    refine g_iconst 2 C dL_squeeze_21 (by decide) ?_
    exact g_iret C hr rfl dL_squeeze_22 (by decide) (by decide) rfl rfl rfl
  ·
    refine g_aload 4 C rfl dL_squeeze_0 ?_
    refine g_iconst 0 C dL_squeeze_2 (by decide) ?_
    refine g_aload_n 0 C rfl dL_squeeze_3 rfl ?_
    refine g_iload_n 1 C rfl dL_squeeze_4 rfl ?_
    refine g_iload_n 2 C rfl dL_squeeze_5 rfl ?_
    refine g_iload_n 3 C rfl dL_squeeze_6 rfl ?_
    refine g_callVOC (na := 3) (As := [.int x, .int t, .int g]) (E := eISE) (c_squeeze l D cI cJ hst h σ np nt no ni hI x t g 3 hK) C gL_squeeze_X0_squeeze rfl (by decide +kernel) rfl ⟨Nat.le_of_ble_eq_true rfl, Nat.le_of_ble_eq_true rfl⟩ rfl (Nat.le_of_ble_eq_true rfl) ⟨by decide, by decide⟩ dL_squeeze_7 htab [⟨0, 12, 15, 21⟩, ⟨0, 12, 19, 13⟩] ⟨0, 12, 23, 15⟩ [] rfl (fun z hz => (List.mem_cons.mp hz).elim (fun e9 => e9 ▸ ⟨by decide, eIOB, by decide +kernel, C.2.2.2.2.2.2.2.2.2.2.2.2.2.1⟩) (fun hz => (List.mem_singleton.mp hz) ▸ ⟨by decide, eIAE, by decide +kernel, C.2.2.2.2.2.2.2.2.2.2.2.2.2.2⟩)) (by decide) (by decide) (by decide +kernel) (by decide +kernel) (fun xq => ?_)
    refine g_astore [(5, .ref xq), (0, .ref (h 0)), (1, .int x), (2, .int t), (3, .int g), (4, .ref ho)] C dL_squeeze_23 (by decide) rfl ?_
    refine g_iconst 3 C dL_squeeze_25 (by decide) ?_
    exact g_iret C hr rfl dL_squeeze_26 (by decide) (by decide) rfl rfl rfl
set_option maxRecDepth 100000 in
set_option maxHeartbeats 4000000 in
theorem c_w_pour (l : Launch) (D : va_G) (cI cJ : ClassId) (hst : l.stackTraces = false) (h : Nat → Nat) (σ : gS) (np nt no ni : Nat) (hI : iA σ np nt no ni) (ho : Nat) (fo : Nat → Int64) (x y g : Int32) (K : Nat) (hK : K = th_pour σ nt no x y g) : MC l yL_pour wsL_pour 8 135 D (tyIJ cI cJ) [.ref (h 0), .int x, .int y, .int g, .ref ho] (wO cI cJ h ho σ fo) (wO cI cJ h ho (kS K σ (sA σ 3 (mvS σ nt (cl x) (cl y) g))) (kF K fo (rowS (mvS σ nt (cl x) (cl y) g) (cl y) nt))) none (some (.int (nI (cdI K)))) (nT K) := by
  have hK4 : K = 0 ∨ K = 1 ∨ K = 2 ∨ K = 3 := by
    rw [hK]; unfold th_pour
    repeat' split
    all_goals simp
  refine MC.ofGH (cc := cL_pour) (maxL := 6) (ret := some .int) (hh := [(0, 12, 15, 21), (0, 12, 19, 13), (0, 12, 23, 15)]) [(0, .ref (h 0)), (1, .int x), (2, .int y), (3, .int g), (4, .ref ho)] (by decide) rfl (Nat.le_of_ble_eq_true rfl) rfl ?_
  intro p e s m args below meth c C hr htab
  rcases hK4 with rfl | rfl | rfl | rfl
  ·
    refine g_aload 4 C rfl dL_pour_0 ?_
    refine g_iconst 0 C dL_pour_2 (by decide) ?_
    refine g_aload_n 0 C rfl dL_pour_3 rfl ?_
    refine g_iload_n 1 C rfl dL_pour_4 rfl ?_
    refine g_iload_n 2 C rfl dL_pour_5 rfl ?_
    refine g_iload_n 3 C rfl dL_pour_6 rfl ?_
    refine g_callVO (na := 3) (As := [.int x, .int y, .int g]) (c_pour l D cI cJ hst h σ np nt no ni hI x y g 0 hK) C gL_pour_X0_pour rfl (by decide +kernel) rfl ⟨Nat.le_of_ble_eq_true rfl, Nat.le_of_ble_eq_true rfl⟩ rfl (Nat.le_of_ble_eq_true rfl) ⟨by decide, by decide⟩ dL_pour_7 ?_
    refine g_i2l C dL_pour_10 ?_
    refine g_last (cA := cJ) (n := 1) (a := ho) (f := fo) 13 1 (wO cI cJ h ho (sA σ 3 (mvS σ nt (cl x) (cl y) g)) (kF 0 fo (rowS (mvS σ nt (cl x) (cl y) g) (cl y) nt))) C rfl rfl (vp_in_nI (n := 0) (N := 1) (by decide) (by decide)) rfl dL_pour_11 ?_
    refine g_goto 27 C dL_pour_12 (by decide) ?_
    refine g_iconst 0 C dL_pour_27 (by decide) ?_
    exact g_iret C hr rfl dL_pour_28 (by decide) (by decide) rfl rfl rfl
  ·
    refine g_aload 4 C rfl dL_pour_0 ?_
    refine g_iconst 0 C dL_pour_2 (by decide) ?_
    refine g_aload_n 0 C rfl dL_pour_3 rfl ?_
    refine g_iload_n 1 C rfl dL_pour_4 rfl ?_
    refine g_iload_n 2 C rfl dL_pour_5 rfl ?_
    refine g_iload_n 3 C rfl dL_pour_6 rfl ?_
    refine g_callVOC (na := 3) (As := [.int x, .int y, .int g]) (E := eIOB) (c_pour l D cI cJ hst h σ np nt no ni hI x y g 1 hK) C gL_pour_X0_pour rfl (by decide +kernel) rfl ⟨Nat.le_of_ble_eq_true rfl, Nat.le_of_ble_eq_true rfl⟩ rfl (Nat.le_of_ble_eq_true rfl) ⟨by decide, by decide⟩ dL_pour_7 htab [] ⟨0, 12, 15, 21⟩ [⟨0, 12, 19, 13⟩, ⟨0, 12, 23, 15⟩] rfl (fun z hz => absurd hz List.not_mem_nil) (by decide) (by decide) (by decide +kernel) (by decide +kernel) (fun xq => ?_)
    refine g_astore [(5, .ref xq), (0, .ref (h 0)), (1, .int x), (2, .int y), (3, .int g), (4, .ref ho)] C dL_pour_15 (by decide) rfl ?_
    refine g_iconst 1 C dL_pour_17 (by decide) ?_
    exact g_iret C hr rfl dL_pour_18 (by decide) (by decide) rfl rfl rfl
  ·
    refine g_aload 4 C rfl dL_pour_0 ?_
    refine g_iconst 0 C dL_pour_2 (by decide) ?_
    refine g_aload_n 0 C rfl dL_pour_3 rfl ?_
    refine g_iload_n 1 C rfl dL_pour_4 rfl ?_
    refine g_iload_n 2 C rfl dL_pour_5 rfl ?_
    refine g_iload_n 3 C rfl dL_pour_6 rfl ?_
    refine g_callVOC (na := 3) (As := [.int x, .int y, .int g]) (E := eIAE) (c_pour l D cI cJ hst h σ np nt no ni hI x y g 2 hK) C gL_pour_X0_pour rfl (by decide +kernel) rfl ⟨Nat.le_of_ble_eq_true rfl, Nat.le_of_ble_eq_true rfl⟩ rfl (Nat.le_of_ble_eq_true rfl) ⟨by decide, by decide⟩ dL_pour_7 htab [⟨0, 12, 15, 21⟩] ⟨0, 12, 19, 13⟩ [⟨0, 12, 23, 15⟩] rfl (fun z hz => by rw [List.mem_singleton.mp hz]; exact ⟨by decide, eIOB, by decide +kernel, C.2.2.2.2.2.2.2.2.2.2.2.2.1⟩) (by decide) (by decide) (by decide +kernel) (by decide +kernel) (fun xq => ?_)
    refine g_astore [(5, .ref xq), (0, .ref (h 0)), (1, .int x), (2, .int y), (3, .int g), (4, .ref ho)] C dL_pour_19 (by decide) rfl ?_
    refine g_iconst 2 C dL_pour_21 (by decide) ?_
    exact g_iret C hr rfl dL_pour_22 (by decide) (by decide) rfl rfl rfl
  ·
    refine g_aload 4 C rfl dL_pour_0 ?_
    refine g_iconst 0 C dL_pour_2 (by decide) ?_
    refine g_aload_n 0 C rfl dL_pour_3 rfl ?_
    refine g_iload_n 1 C rfl dL_pour_4 rfl ?_
    refine g_iload_n 2 C rfl dL_pour_5 rfl ?_
    refine g_iload_n 3 C rfl dL_pour_6 rfl ?_
    refine g_callVOC (na := 3) (As := [.int x, .int y, .int g]) (E := eISE) (c_pour l D cI cJ hst h σ np nt no ni hI x y g 3 hK) C gL_pour_X0_pour rfl (by decide +kernel) rfl ⟨Nat.le_of_ble_eq_true rfl, Nat.le_of_ble_eq_true rfl⟩ rfl (Nat.le_of_ble_eq_true rfl) ⟨by decide, by decide⟩ dL_pour_7 htab [⟨0, 12, 15, 21⟩, ⟨0, 12, 19, 13⟩] ⟨0, 12, 23, 15⟩ [] rfl (fun z hz => (List.mem_cons.mp hz).elim (fun e9 => e9 ▸ ⟨by decide, eIOB, by decide +kernel, C.2.2.2.2.2.2.2.2.2.2.2.2.2.1⟩) (fun hz => (List.mem_singleton.mp hz) ▸ ⟨by decide, eIAE, by decide +kernel, C.2.2.2.2.2.2.2.2.2.2.2.2.2.2⟩)) (by decide) (by decide) (by decide +kernel) (by decide +kernel) (fun xq => ?_)
    refine g_astore [(5, .ref xq), (0, .ref (h 0)), (1, .int x), (2, .int y), (3, .int g), (4, .ref ho)] C dL_pour_23 (by decide) rfl ?_
    refine g_iconst 3 C dL_pour_25 (by decide) ?_
    exact g_iret C hr rfl dL_pour_26 (by decide) (by decide) rfl rfl rfl
set_option maxRecDepth 100000 in
set_option maxHeartbeats 4000000 in
theorem c_w_scrape (l : Launch) (D : va_G) (cI cJ : ClassId) (hst : l.stackTraces = false) (h : Nat → Nat) (σ : gS) (np nt no ni : Nat) (hI : iA σ np nt no ni) (ho : Nat) (fo : Nat → Int64) (x : Int32) (K : Nat) (hK : K = th_scrape no x) : MC l yL_scrape wsL_scrape 8 132 D (tyIJ cI cJ) [.ref (h 0), .int x, .ref ho] (wO cI cJ h ho σ fo) (wO cI cJ h ho (kS K σ (sA σ 3 (wsL (σ.2 3) (cl x) nt))) (kF K fo (rowS (σ.2 3) (cl x) nt))) none (some (.int (nI (cdI K)))) (nT K) := by
  have hK4 : K = 0 ∨ K = 1 := by
    rw [hK]; unfold th_scrape
    repeat' split
    all_goals simp
  refine MC.ofGH (cc := cL_scrape) (maxL := 4) (ret := some .int) (hh := [(0, 9, 12, 21)]) [(0, .ref (h 0)), (1, .int x), (2, .ref ho)] (by decide) rfl (Nat.le_of_ble_eq_true rfl) rfl ?_
  intro p e s m args below meth c C hr htab
  rcases hK4 with rfl | rfl
  ·
    refine g_aload_n 2 C rfl dL_scrape_0 rfl ?_
    refine g_iconst 0 C dL_scrape_1 (by decide) ?_
    refine g_aload_n 0 C rfl dL_scrape_2 rfl ?_
    refine g_iload_n 1 C rfl dL_scrape_3 rfl ?_
    refine g_callVO (na := 1) (As := [.int x]) (c_scrape l D cI cJ hst h σ np nt no ni hI x 0 hK) C gL_scrape_X0_scrape rfl (by decide +kernel) rfl ⟨Nat.le_of_ble_eq_true rfl, Nat.le_of_ble_eq_true rfl⟩ rfl (Nat.le_of_ble_eq_true rfl) ⟨by decide, by decide⟩ dL_scrape_4 ?_
    refine g_i2l C dL_scrape_7 ?_
    refine g_last (cA := cJ) (n := 1) (a := ho) (f := fo) 13 1 (wO cI cJ h ho (sA σ 3 (wsL (σ.2 3) (cl x) nt)) (kF 0 fo (rowS (σ.2 3) (cl x) nt))) C rfl rfl (vp_in_nI (n := 0) (N := 1) (by decide) (by decide)) rfl dL_scrape_8 ?_
    refine g_goto 15 C dL_scrape_9 (by decide) ?_
    refine g_iconst 0 C dL_scrape_15 (by decide) ?_
    exact g_iret C hr rfl dL_scrape_16 (by decide) (by decide) rfl rfl rfl
  ·
    refine g_aload_n 2 C rfl dL_scrape_0 rfl ?_
    refine g_iconst 0 C dL_scrape_1 (by decide) ?_
    refine g_aload_n 0 C rfl dL_scrape_2 rfl ?_
    refine g_iload_n 1 C rfl dL_scrape_3 rfl ?_
    refine g_callVOC (na := 1) (As := [.int x]) (E := eIOB) (c_scrape l D cI cJ hst h σ np nt no ni hI x 1 hK) C gL_scrape_X0_scrape rfl (by decide +kernel) rfl ⟨Nat.le_of_ble_eq_true rfl, Nat.le_of_ble_eq_true rfl⟩ rfl (Nat.le_of_ble_eq_true rfl) ⟨by decide, by decide⟩ dL_scrape_4 htab [] ⟨0, 9, 12, 21⟩ [] rfl (fun z hz => absurd hz List.not_mem_nil) (by decide) (by decide) (by decide +kernel) (by decide +kernel) (fun xq => ?_)
    refine g_astore_n [(3, .ref xq), (0, .ref (h 0)), (1, .int x), (2, .ref ho)] C dL_scrape_12 rfl (by decide) rfl ?_
    refine g_iconst 1 C dL_scrape_13 (by decide) ?_
    exact g_iret C hr rfl dL_scrape_14 (by decide) (by decide) rfl rfl rfl
set_option maxRecDepth 100000 in
set_option maxHeartbeats 4000000 in
theorem c_w_picture (l : Launch) (D : va_G) (cI cJ : ClassId) (hst : l.stackTraces = false) (h : Nat → Nat) (σ : gS) (np nt no ni : Nat) (hI : iA σ np nt no ni) (ho : Nat) (fo : Nat → Int64)  (K : Nat) (hK : K = th_picture ni) : MC l yL_picture wsL_picture 7 110 D (tyIJ cI cJ) [.ref (h 0), .ref ho] (wO cI cJ h ho σ fo) (wO cI cJ h ho (kS K σ (sS σ 3 (nI (ni + 1)))) (kF K fo (nI ni))) none (some (.int (nI (cdS K)))) (nT K) := by
  have hK4 : K = 0 ∨ K = 3 := by
    rw [hK]; unfold th_picture
    repeat' split
    all_goals simp
  refine MC.ofGH (cc := cL_picture) (maxL := 3) (ret := some .int) (hh := [(0, 8, 11, 15)]) [(0, .ref (h 0)), (1, .ref ho)] (by decide) rfl (Nat.le_of_ble_eq_true rfl) rfl ?_
  intro p e s m args below meth c C hr htab
  rcases hK4 with rfl | rfl
  ·
    refine g_aload_n 1 C rfl dL_picture_0 rfl ?_
    refine g_iconst 0 C dL_picture_1 (by decide) ?_
    refine g_aload_n 0 C rfl dL_picture_2 rfl ?_
    refine g_callVO (na := 0) (As := []) (c_picture l D cI cJ hst h σ np nt no ni hI  0 hK) C gL_picture_X0_picture rfl (by decide +kernel) rfl ⟨Nat.le_of_ble_eq_true rfl, Nat.le_of_ble_eq_true rfl⟩ rfl (Nat.le_of_ble_eq_true rfl) ⟨by decide, by decide⟩ dL_picture_3 ?_
    refine g_i2l C dL_picture_6 ?_
    refine g_last (cA := cJ) (n := 1) (a := ho) (f := fo) 13 1 (wO cI cJ h ho (sS σ 3 (nI (ni + 1))) (kF 0 fo (nI ni))) C rfl rfl (vp_in_nI (n := 0) (N := 1) (by decide) (by decide)) rfl dL_picture_7 ?_
    refine g_goto 14 C dL_picture_8 (by decide) ?_
    refine g_iconst 0 C dL_picture_14 (by decide) ?_
    exact g_iret C hr rfl dL_picture_15 (by decide) (by decide) rfl rfl rfl
  ·
    refine g_aload_n 1 C rfl dL_picture_0 rfl ?_
    refine g_iconst 0 C dL_picture_1 (by decide) ?_
    refine g_aload_n 0 C rfl dL_picture_2 rfl ?_
    refine g_callVOC (na := 0) (As := []) (E := eISE) (c_picture l D cI cJ hst h σ np nt no ni hI  3 hK) C gL_picture_X0_picture rfl (by decide +kernel) rfl ⟨Nat.le_of_ble_eq_true rfl, Nat.le_of_ble_eq_true rfl⟩ rfl (Nat.le_of_ble_eq_true rfl) ⟨by decide, by decide⟩ dL_picture_3 htab [] ⟨0, 8, 11, 15⟩ [] rfl (fun z hz => absurd hz List.not_mem_nil) (by decide) (by decide) (by decide +kernel) (by decide +kernel) (fun xq => ?_)
    refine g_astore_n [(2, .ref xq), (0, .ref (h 0)), (1, .ref ho)] C dL_picture_11 rfl (by decide) rfl ?_
    refine g_iconst 1 C dL_picture_12 (by decide) ?_
    exact g_iret C hr rfl dL_picture_13 (by decide) (by decide) rfl rfl rfl
set_option maxRecDepth 100000 in
set_option maxHeartbeats 4000000 in
theorem c_w_paint (l : Launch) (D : va_G) (cI cJ : ClassId) (hst : l.stackTraces = false) (h : Nat → Nat) (σ : gS) (np nt no ni : Nat) (hI : iA σ np nt no ni) (ho : Nat) (fo : Nat → Int64) (q x g : Int32) (K : Nat) (hK : K = th_paint σ nt no ni q x g) : MC l yL_paint wsL_paint 8 135 D (tyIJ cI cJ) [.ref (h 0), .int q, .int x, .int g, .ref ho] (wO cI cJ h ho σ fo) (wO cI cJ h ho (kS K σ (s_paint σ nt (cl q) (cl x) g)) (kF K fo (nI (cl (σ.2 4 (cl q)) + 1)))) none (some (.int (nI (cdI K)))) (nT K) := by
  have hK4 : K = 0 ∨ K = 1 ∨ K = 2 ∨ K = 3 := by
    rw [hK]; unfold th_paint
    repeat' split
    all_goals simp
  refine MC.ofGH (cc := cL_paint) (maxL := 6) (ret := some .int) (hh := [(0, 12, 15, 21), (0, 12, 19, 13), (0, 12, 23, 15)]) [(0, .ref (h 0)), (1, .int q), (2, .int x), (3, .int g), (4, .ref ho)] (by decide) rfl (Nat.le_of_ble_eq_true rfl) rfl ?_
  intro p e s m args below meth c C hr htab
  rcases hK4 with rfl | rfl | rfl | rfl
  ·
    refine g_aload 4 C rfl dL_paint_0 ?_
    refine g_iconst 0 C dL_paint_2 (by decide) ?_
    refine g_aload_n 0 C rfl dL_paint_3 rfl ?_
    refine g_iload_n 1 C rfl dL_paint_4 rfl ?_
    refine g_iload_n 2 C rfl dL_paint_5 rfl ?_
    refine g_iload_n 3 C rfl dL_paint_6 rfl ?_
    refine g_callVO (na := 3) (As := [.int q, .int x, .int g]) (c_paint l D cI cJ hst h σ np nt no ni hI q x g 0 hK) C gL_paint_X0_paint rfl (by decide +kernel) rfl ⟨Nat.le_of_ble_eq_true rfl, Nat.le_of_ble_eq_true rfl⟩ rfl (Nat.le_of_ble_eq_true rfl) ⟨by decide, by decide⟩ dL_paint_7 ?_
    refine g_i2l C dL_paint_10 ?_
    refine g_last (cA := cJ) (n := 1) (a := ho) (f := fo) 13 1 (wO cI cJ h ho (s_paint σ nt (cl q) (cl x) g) (kF 0 fo (nI (cl (σ.2 4 (cl q)) + 1)))) C rfl rfl (vp_in_nI (n := 0) (N := 1) (by decide) (by decide)) rfl dL_paint_11 ?_
    refine g_goto 27 C dL_paint_12 (by decide) ?_
    refine g_iconst 0 C dL_paint_27 (by decide) ?_
    exact g_iret C hr rfl dL_paint_28 (by decide) (by decide) rfl rfl rfl
  ·
    refine g_aload 4 C rfl dL_paint_0 ?_
    refine g_iconst 0 C dL_paint_2 (by decide) ?_
    refine g_aload_n 0 C rfl dL_paint_3 rfl ?_
    refine g_iload_n 1 C rfl dL_paint_4 rfl ?_
    refine g_iload_n 2 C rfl dL_paint_5 rfl ?_
    refine g_iload_n 3 C rfl dL_paint_6 rfl ?_
    refine g_callVOC (na := 3) (As := [.int q, .int x, .int g]) (E := eIOB) (c_paint l D cI cJ hst h σ np nt no ni hI q x g 1 hK) C gL_paint_X0_paint rfl (by decide +kernel) rfl ⟨Nat.le_of_ble_eq_true rfl, Nat.le_of_ble_eq_true rfl⟩ rfl (Nat.le_of_ble_eq_true rfl) ⟨by decide, by decide⟩ dL_paint_7 htab [] ⟨0, 12, 15, 21⟩ [⟨0, 12, 19, 13⟩, ⟨0, 12, 23, 15⟩] rfl (fun z hz => absurd hz List.not_mem_nil) (by decide) (by decide) (by decide +kernel) (by decide +kernel) (fun xq => ?_)
    refine g_astore [(5, .ref xq), (0, .ref (h 0)), (1, .int q), (2, .int x), (3, .int g), (4, .ref ho)] C dL_paint_15 (by decide) rfl ?_
    refine g_iconst 1 C dL_paint_17 (by decide) ?_
    exact g_iret C hr rfl dL_paint_18 (by decide) (by decide) rfl rfl rfl
  ·
    refine g_aload 4 C rfl dL_paint_0 ?_
    refine g_iconst 0 C dL_paint_2 (by decide) ?_
    refine g_aload_n 0 C rfl dL_paint_3 rfl ?_
    refine g_iload_n 1 C rfl dL_paint_4 rfl ?_
    refine g_iload_n 2 C rfl dL_paint_5 rfl ?_
    refine g_iload_n 3 C rfl dL_paint_6 rfl ?_
    refine g_callVOC (na := 3) (As := [.int q, .int x, .int g]) (E := eIAE) (c_paint l D cI cJ hst h σ np nt no ni hI q x g 2 hK) C gL_paint_X0_paint rfl (by decide +kernel) rfl ⟨Nat.le_of_ble_eq_true rfl, Nat.le_of_ble_eq_true rfl⟩ rfl (Nat.le_of_ble_eq_true rfl) ⟨by decide, by decide⟩ dL_paint_7 htab [⟨0, 12, 15, 21⟩] ⟨0, 12, 19, 13⟩ [⟨0, 12, 23, 15⟩] rfl (fun z hz => by rw [List.mem_singleton.mp hz]; exact ⟨by decide, eIOB, by decide +kernel, C.2.2.2.2.2.2.2.2.2.2.2.2.1⟩) (by decide) (by decide) (by decide +kernel) (by decide +kernel) (fun xq => ?_)
    refine g_astore [(5, .ref xq), (0, .ref (h 0)), (1, .int q), (2, .int x), (3, .int g), (4, .ref ho)] C dL_paint_19 (by decide) rfl ?_
    refine g_iconst 2 C dL_paint_21 (by decide) ?_
    exact g_iret C hr rfl dL_paint_22 (by decide) (by decide) rfl rfl rfl
  ·
    refine g_aload 4 C rfl dL_paint_0 ?_
    refine g_iconst 0 C dL_paint_2 (by decide) ?_
    refine g_aload_n 0 C rfl dL_paint_3 rfl ?_
    refine g_iload_n 1 C rfl dL_paint_4 rfl ?_
    refine g_iload_n 2 C rfl dL_paint_5 rfl ?_
    refine g_iload_n 3 C rfl dL_paint_6 rfl ?_
    refine g_callVOC (na := 3) (As := [.int q, .int x, .int g]) (E := eISE) (c_paint l D cI cJ hst h σ np nt no ni hI q x g 3 hK) C gL_paint_X0_paint rfl (by decide +kernel) rfl ⟨Nat.le_of_ble_eq_true rfl, Nat.le_of_ble_eq_true rfl⟩ rfl (Nat.le_of_ble_eq_true rfl) ⟨by decide, by decide⟩ dL_paint_7 htab [⟨0, 12, 15, 21⟩, ⟨0, 12, 19, 13⟩] ⟨0, 12, 23, 15⟩ [] rfl (fun z hz => (List.mem_cons.mp hz).elim (fun e9 => e9 ▸ ⟨by decide, eIOB, by decide +kernel, C.2.2.2.2.2.2.2.2.2.2.2.2.2.1⟩) (fun hz => (List.mem_singleton.mp hz) ▸ ⟨by decide, eIAE, by decide +kernel, C.2.2.2.2.2.2.2.2.2.2.2.2.2.2⟩)) (by decide) (by decide) (by decide +kernel) (by decide +kernel) (fun xq => ?_)
    refine g_astore [(5, .ref xq), (0, .ref (h 0)), (1, .int q), (2, .int x), (3, .int g), (4, .ref ho)] C dL_paint_23 (by decide) rfl ?_
    refine g_iconst 3 C dL_paint_25 (by decide) ?_
    exact g_iret C hr rfl dL_paint_26 (by decide) (by decide) rfl rfl rfl
set_option maxRecDepth 100000 in
set_option maxHeartbeats 4000000 in
theorem c_w_clean (l : Launch) (D : va_G) (cI cJ : ClassId) (hst : l.stackTraces = false) (h : Nat → Nat) (σ : gS) (np nt no ni : Nat) (hI : iA σ np nt no ni) (ho : Nat) (fo : Nat → Int64) (q n : Int32) (K : Nat) (hK : K = th_clean σ ni q n) : MC l yL_clean wsL_clean 8 136 D (tyIJ cI cJ) [.ref (h 0), .int q, .int n, .ref ho] (wO cI cJ h ho σ fo) (wO cI cJ h ho (kS K σ (s_clean σ nt (cl q) (cl n))) (kF K fo (clS (σ.2 3) nt (cl q) (cl (σ.2 4 (cl q))) (cl n)))) none (some (.int (nI (cdI K)))) (nT K) := by
  have hK4 : K = 0 ∨ K = 1 ∨ K = 2 ∨ K = 3 := by
    rw [hK]; unfold th_clean
    repeat' split
    all_goals simp
  refine MC.ofGH (cc := cL_clean) (maxL := 5) (ret := some .int) (hh := [(0, 10, 13, 21), (0, 10, 17, 13), (0, 10, 21, 15)]) [(0, .ref (h 0)), (1, .int q), (2, .int n), (3, .ref ho)] (by decide) rfl (Nat.le_of_ble_eq_true rfl) rfl ?_
  intro p e s m args below meth c C hr htab
  rcases hK4 with rfl | rfl | rfl | rfl
  ·
    refine g_aload_n 3 C rfl dL_clean_0 rfl ?_
    refine g_iconst 0 C dL_clean_1 (by decide) ?_
    refine g_aload_n 0 C rfl dL_clean_2 rfl ?_
    refine g_iload_n 1 C rfl dL_clean_3 rfl ?_
    refine g_iload_n 2 C rfl dL_clean_4 rfl ?_
    refine g_callVO (na := 2) (As := [.int q, .int n]) (c_clean l D cI cJ hst h σ np nt no ni hI q n 0 hK) C gL_clean_X0_clean rfl (by decide +kernel) rfl ⟨Nat.le_of_ble_eq_true rfl, Nat.le_of_ble_eq_true rfl⟩ rfl (Nat.le_of_ble_eq_true rfl) ⟨by decide, by decide⟩ dL_clean_5 ?_
    refine g_i2l C dL_clean_8 ?_
    refine g_last (cA := cJ) (n := 1) (a := ho) (f := fo) 13 1 (wO cI cJ h ho (s_clean σ nt (cl q) (cl n)) (kF 0 fo (clS (σ.2 3) nt (cl q) (cl (σ.2 4 (cl q))) (cl n)))) C rfl rfl (vp_in_nI (n := 0) (N := 1) (by decide) (by decide)) rfl dL_clean_9 ?_
    refine g_goto 25 C dL_clean_10 (by decide) ?_
    refine g_iconst 0 C dL_clean_25 (by decide) ?_
    exact g_iret C hr rfl dL_clean_26 (by decide) (by decide) rfl rfl rfl
  ·
    refine g_aload_n 3 C rfl dL_clean_0 rfl ?_
    refine g_iconst 0 C dL_clean_1 (by decide) ?_
    refine g_aload_n 0 C rfl dL_clean_2 rfl ?_
    refine g_iload_n 1 C rfl dL_clean_3 rfl ?_
    refine g_iload_n 2 C rfl dL_clean_4 rfl ?_
    refine g_callVOC (na := 2) (As := [.int q, .int n]) (E := eIOB) (c_clean l D cI cJ hst h σ np nt no ni hI q n 1 hK) C gL_clean_X0_clean rfl (by decide +kernel) rfl ⟨Nat.le_of_ble_eq_true rfl, Nat.le_of_ble_eq_true rfl⟩ rfl (Nat.le_of_ble_eq_true rfl) ⟨by decide, by decide⟩ dL_clean_5 htab [] ⟨0, 10, 13, 21⟩ [⟨0, 10, 17, 13⟩, ⟨0, 10, 21, 15⟩] rfl (fun z hz => absurd hz List.not_mem_nil) (by decide) (by decide) (by decide +kernel) (by decide +kernel) (fun xq => ?_)
    refine g_astore [(4, .ref xq), (0, .ref (h 0)), (1, .int q), (2, .int n), (3, .ref ho)] C dL_clean_13 (by decide) rfl ?_
    refine g_iconst 1 C dL_clean_15 (by decide) ?_
    exact g_iret C hr rfl dL_clean_16 (by decide) (by decide) rfl rfl rfl
  ·
    refine g_aload_n 3 C rfl dL_clean_0 rfl ?_
    refine g_iconst 0 C dL_clean_1 (by decide) ?_
    refine g_aload_n 0 C rfl dL_clean_2 rfl ?_
    refine g_iload_n 1 C rfl dL_clean_3 rfl ?_
    refine g_iload_n 2 C rfl dL_clean_4 rfl ?_
    refine g_callVOC (na := 2) (As := [.int q, .int n]) (E := eIAE) (c_clean l D cI cJ hst h σ np nt no ni hI q n 2 hK) C gL_clean_X0_clean rfl (by decide +kernel) rfl ⟨Nat.le_of_ble_eq_true rfl, Nat.le_of_ble_eq_true rfl⟩ rfl (Nat.le_of_ble_eq_true rfl) ⟨by decide, by decide⟩ dL_clean_5 htab [⟨0, 10, 13, 21⟩] ⟨0, 10, 17, 13⟩ [⟨0, 10, 21, 15⟩] rfl (fun z hz => by rw [List.mem_singleton.mp hz]; exact ⟨by decide, eIOB, by decide +kernel, C.2.2.2.2.2.2.2.2.2.2.2.2.1⟩) (by decide) (by decide) (by decide +kernel) (by decide +kernel) (fun xq => ?_)
    refine g_astore [(4, .ref xq), (0, .ref (h 0)), (1, .int q), (2, .int n), (3, .ref ho)] C dL_clean_17 (by decide) rfl ?_
    refine g_iconst 2 C dL_clean_19 (by decide) ?_
    exact g_iret C hr rfl dL_clean_20 (by decide) (by decide) rfl rfl rfl
  ·
    refine g_aload_n 3 C rfl dL_clean_0 rfl ?_
    refine g_iconst 0 C dL_clean_1 (by decide) ?_
    refine g_aload_n 0 C rfl dL_clean_2 rfl ?_
    refine g_iload_n 1 C rfl dL_clean_3 rfl ?_
    refine g_iload_n 2 C rfl dL_clean_4 rfl ?_
    refine g_callVOC (na := 2) (As := [.int q, .int n]) (E := eISE) (c_clean l D cI cJ hst h σ np nt no ni hI q n 3 hK) C gL_clean_X0_clean rfl (by decide +kernel) rfl ⟨Nat.le_of_ble_eq_true rfl, Nat.le_of_ble_eq_true rfl⟩ rfl (Nat.le_of_ble_eq_true rfl) ⟨by decide, by decide⟩ dL_clean_5 htab [⟨0, 10, 13, 21⟩, ⟨0, 10, 17, 13⟩] ⟨0, 10, 21, 15⟩ [] rfl (fun z hz => (List.mem_cons.mp hz).elim (fun e9 => e9 ▸ ⟨by decide, eIOB, by decide +kernel, C.2.2.2.2.2.2.2.2.2.2.2.2.2.1⟩) (fun hz => (List.mem_singleton.mp hz) ▸ ⟨by decide, eIAE, by decide +kernel, C.2.2.2.2.2.2.2.2.2.2.2.2.2.2⟩)) (by decide) (by decide) (by decide +kernel) (by decide +kernel) (fun xq => ?_)
    refine g_astore [(4, .ref xq), (0, .ref (h 0)), (1, .int q), (2, .int n), (3, .ref ho)] C dL_clean_21 (by decide) rfl ?_
    refine g_iconst 3 C dL_clean_23 (by decide) ?_
    exact g_iret C hr rfl dL_clean_24 (by decide) (by decide) rfl rfl rfl
set_option maxRecDepth 100000 in
set_option maxHeartbeats 4000000 in
theorem c_w_damp (l : Launch) (D : va_G) (cI cJ : ClassId) (hst : l.stackTraces = false) (h : Nat → Nat) (σ : gS) (np nt no ni : Nat) (hI : iA σ np nt no ni) (ho : Nat) (fo : Nat → Int64) (x d : Int32) (K : Nat) (hK : K = th_damp x d) : MC l yL_damp wsL_damp 8 135 D (tyIJ cI cJ) [.ref (h 0), .int x, .int d, .ref ho] (wO cI cJ h ho σ fo) (wO cI cJ h ho (kS K σ (sA σ 10 (upd (σ.2 10) (cl x) d))) (kF K fo (σ.2 10 (cl x)))) none (some (.int (nI (cdI K)))) (nT K) := by
  have hK4 : K = 0 ∨ K = 1 ∨ K = 2 := by
    rw [hK]; unfold th_damp
    repeat' split
    all_goals simp
  refine MC.ofGH (cc := cL_damp) (maxL := 5) (ret := some .int) (hh := [(0, 10, 13, 21), (0, 10, 17, 13)]) [(0, .ref (h 0)), (1, .int x), (2, .int d), (3, .ref ho)] (by decide) rfl (Nat.le_of_ble_eq_true rfl) rfl ?_
  intro p e s m args below meth c C hr htab
  rcases hK4 with rfl | rfl | rfl
  ·
    refine g_aload_n 3 C rfl dL_damp_0 rfl ?_
    refine g_iconst 0 C dL_damp_1 (by decide) ?_
    refine g_aload_n 0 C rfl dL_damp_2 rfl ?_
    refine g_iload_n 1 C rfl dL_damp_3 rfl ?_
    refine g_iload_n 2 C rfl dL_damp_4 rfl ?_
    refine g_callVO (na := 2) (As := [.int x, .int d]) (c_damp l D cI cJ hst h σ np nt no ni hI x d 0 hK) C gL_damp_X0_damp rfl (by decide +kernel) rfl ⟨Nat.le_of_ble_eq_true rfl, Nat.le_of_ble_eq_true rfl⟩ rfl (Nat.le_of_ble_eq_true rfl) ⟨by decide, by decide⟩ dL_damp_5 ?_
    refine g_i2l C dL_damp_8 ?_
    refine g_last (cA := cJ) (n := 1) (a := ho) (f := fo) 13 1 (wO cI cJ h ho (sA σ 10 (upd (σ.2 10) (cl x) d)) (kF 0 fo (σ.2 10 (cl x)))) C rfl rfl (vp_in_nI (n := 0) (N := 1) (by decide) (by decide)) rfl dL_damp_9 ?_
    refine g_goto 21 C dL_damp_10 (by decide) ?_
    refine g_iconst 0 C dL_damp_21 (by decide) ?_
    exact g_iret C hr rfl dL_damp_22 (by decide) (by decide) rfl rfl rfl
  ·
    refine g_aload_n 3 C rfl dL_damp_0 rfl ?_
    refine g_iconst 0 C dL_damp_1 (by decide) ?_
    refine g_aload_n 0 C rfl dL_damp_2 rfl ?_
    refine g_iload_n 1 C rfl dL_damp_3 rfl ?_
    refine g_iload_n 2 C rfl dL_damp_4 rfl ?_
    refine g_callVOC (na := 2) (As := [.int x, .int d]) (E := eIOB) (c_damp l D cI cJ hst h σ np nt no ni hI x d 1 hK) C gL_damp_X0_damp rfl (by decide +kernel) rfl ⟨Nat.le_of_ble_eq_true rfl, Nat.le_of_ble_eq_true rfl⟩ rfl (Nat.le_of_ble_eq_true rfl) ⟨by decide, by decide⟩ dL_damp_5 htab [] ⟨0, 10, 13, 21⟩ [⟨0, 10, 17, 13⟩] rfl (fun z hz => absurd hz List.not_mem_nil) (by decide) (by decide) (by decide +kernel) (by decide +kernel) (fun xq => ?_)
    refine g_astore [(4, .ref xq), (0, .ref (h 0)), (1, .int x), (2, .int d), (3, .ref ho)] C dL_damp_13 (by decide) rfl ?_
    refine g_iconst 1 C dL_damp_15 (by decide) ?_
    exact g_iret C hr rfl dL_damp_16 (by decide) (by decide) rfl rfl rfl
  ·
    refine g_aload_n 3 C rfl dL_damp_0 rfl ?_
    refine g_iconst 0 C dL_damp_1 (by decide) ?_
    refine g_aload_n 0 C rfl dL_damp_2 rfl ?_
    refine g_iload_n 1 C rfl dL_damp_3 rfl ?_
    refine g_iload_n 2 C rfl dL_damp_4 rfl ?_
    refine g_callVOC (na := 2) (As := [.int x, .int d]) (E := eIAE) (c_damp l D cI cJ hst h σ np nt no ni hI x d 2 hK) C gL_damp_X0_damp rfl (by decide +kernel) rfl ⟨Nat.le_of_ble_eq_true rfl, Nat.le_of_ble_eq_true rfl⟩ rfl (Nat.le_of_ble_eq_true rfl) ⟨by decide, by decide⟩ dL_damp_5 htab [⟨0, 10, 13, 21⟩] ⟨0, 10, 17, 13⟩ [] rfl (fun z hz => by rw [List.mem_singleton.mp hz]; exact ⟨by decide, eIOB, by decide +kernel, C.2.2.2.2.2.2.2.2.2.2.2.2.1⟩) (by decide) (by decide) (by decide +kernel) (by decide +kernel) (fun xq => ?_)
    refine g_astore [(4, .ref xq), (0, .ref (h 0)), (1, .int x), (2, .int d), (3, .ref ho)] C dL_damp_17 (by decide) rfl ?_
    refine g_iconst 2 C dL_damp_19 (by decide) ?_
    exact g_iret C hr rfl dL_damp_20 (by decide) (by decide) rfl rfl rfl
set_option maxRecDepth 100000 in
set_option maxHeartbeats 4000000 in
theorem c_w_lend (l : Launch) (D : va_G) (cI cJ : ClassId) (hst : l.stackTraces = false) (h : Nat → Nat) (σ : gS) (np nt no ni : Nat) (hI : iA σ np nt no ni) (ho : Nat) (fo : Nat → Int64) (q x d : Int32) (K : Nat) (hK : K = th_lend σ ni q x d) : MC l yL_lend wsL_lend 8 162 D (tyIJ cI cJ) [.ref (h 0), .int q, .int x, .int d, .ref ho] (wO cI cJ h ho σ fo) (wO cI cJ h ho (kS K σ (s_lend σ np nt ni (cl q) (cl x) d)) (kF K fo (valA σ np nt ni (cl q) / 100 + 1))) none (some (.int (nI (cdI K)))) (nT K) := by
  have hK4 : K = 0 ∨ K = 1 ∨ K = 2 ∨ K = 3 := by
    rw [hK]; unfold th_lend
    repeat' split
    all_goals simp
  refine MC.ofGH (cc := cL_lend) (maxL := 6) (ret := some .int) (hh := [(0, 12, 15, 21), (0, 12, 19, 13), (0, 12, 23, 15)]) [(0, .ref (h 0)), (1, .int q), (2, .int x), (3, .int d), (4, .ref ho)] (by decide) rfl (Nat.le_of_ble_eq_true rfl) rfl ?_
  intro p e s m args below meth c C hr htab
  rcases hK4 with rfl | rfl | rfl | rfl
  ·
    refine g_aload 4 C rfl dL_lend_0 ?_
    refine g_iconst 0 C dL_lend_2 (by decide) ?_
    refine g_aload_n 0 C rfl dL_lend_3 rfl ?_
    refine g_iload_n 1 C rfl dL_lend_4 rfl ?_
    refine g_iload_n 2 C rfl dL_lend_5 rfl ?_
    refine g_iload_n 3 C rfl dL_lend_6 rfl ?_
    refine g_callVO (na := 3) (As := [.int q, .int x, .int d]) (c_lend l D cI cJ hst h σ np nt no ni hI q x d 0 hK) C gL_lend_X0_lend rfl (by decide +kernel) rfl ⟨Nat.le_of_ble_eq_true rfl, Nat.le_of_ble_eq_true rfl⟩ rfl (Nat.le_of_ble_eq_true rfl) ⟨by decide, by decide⟩ dL_lend_7 ?_
    refine g_i2l C dL_lend_10 ?_
    refine g_last (cA := cJ) (n := 1) (a := ho) (f := fo) 13 1 (wO cI cJ h ho (s_lend σ np nt ni (cl q) (cl x) d) (kF 0 fo (valA σ np nt ni (cl q) / 100 + 1))) C rfl rfl (vp_in_nI (n := 0) (N := 1) (by decide) (by decide)) rfl dL_lend_11 ?_
    refine g_goto 27 C dL_lend_12 (by decide) ?_
    refine g_iconst 0 C dL_lend_27 (by decide) ?_
    exact g_iret C hr rfl dL_lend_28 (by decide) (by decide) rfl rfl rfl
  ·
    refine g_aload 4 C rfl dL_lend_0 ?_
    refine g_iconst 0 C dL_lend_2 (by decide) ?_
    refine g_aload_n 0 C rfl dL_lend_3 rfl ?_
    refine g_iload_n 1 C rfl dL_lend_4 rfl ?_
    refine g_iload_n 2 C rfl dL_lend_5 rfl ?_
    refine g_iload_n 3 C rfl dL_lend_6 rfl ?_
    refine g_callVOC (na := 3) (As := [.int q, .int x, .int d]) (E := eIOB) (c_lend l D cI cJ hst h σ np nt no ni hI q x d 1 hK) C gL_lend_X0_lend rfl (by decide +kernel) rfl ⟨Nat.le_of_ble_eq_true rfl, Nat.le_of_ble_eq_true rfl⟩ rfl (Nat.le_of_ble_eq_true rfl) ⟨by decide, by decide⟩ dL_lend_7 htab [] ⟨0, 12, 15, 21⟩ [⟨0, 12, 19, 13⟩, ⟨0, 12, 23, 15⟩] rfl (fun z hz => absurd hz List.not_mem_nil) (by decide) (by decide) (by decide +kernel) (by decide +kernel) (fun xq => ?_)
    refine g_astore [(5, .ref xq), (0, .ref (h 0)), (1, .int q), (2, .int x), (3, .int d), (4, .ref ho)] C dL_lend_15 (by decide) rfl ?_
    refine g_iconst 1 C dL_lend_17 (by decide) ?_
    exact g_iret C hr rfl dL_lend_18 (by decide) (by decide) rfl rfl rfl
  ·
    refine g_aload 4 C rfl dL_lend_0 ?_
    refine g_iconst 0 C dL_lend_2 (by decide) ?_
    refine g_aload_n 0 C rfl dL_lend_3 rfl ?_
    refine g_iload_n 1 C rfl dL_lend_4 rfl ?_
    refine g_iload_n 2 C rfl dL_lend_5 rfl ?_
    refine g_iload_n 3 C rfl dL_lend_6 rfl ?_
    refine g_callVOC (na := 3) (As := [.int q, .int x, .int d]) (E := eIAE) (c_lend l D cI cJ hst h σ np nt no ni hI q x d 2 hK) C gL_lend_X0_lend rfl (by decide +kernel) rfl ⟨Nat.le_of_ble_eq_true rfl, Nat.le_of_ble_eq_true rfl⟩ rfl (Nat.le_of_ble_eq_true rfl) ⟨by decide, by decide⟩ dL_lend_7 htab [⟨0, 12, 15, 21⟩] ⟨0, 12, 19, 13⟩ [⟨0, 12, 23, 15⟩] rfl (fun z hz => by rw [List.mem_singleton.mp hz]; exact ⟨by decide, eIOB, by decide +kernel, C.2.2.2.2.2.2.2.2.2.2.2.2.1⟩) (by decide) (by decide) (by decide +kernel) (by decide +kernel) (fun xq => ?_)
    refine g_astore [(5, .ref xq), (0, .ref (h 0)), (1, .int q), (2, .int x), (3, .int d), (4, .ref ho)] C dL_lend_19 (by decide) rfl ?_
    refine g_iconst 2 C dL_lend_21 (by decide) ?_
    exact g_iret C hr rfl dL_lend_22 (by decide) (by decide) rfl rfl rfl
  ·
    refine g_aload 4 C rfl dL_lend_0 ?_
    refine g_iconst 0 C dL_lend_2 (by decide) ?_
    refine g_aload_n 0 C rfl dL_lend_3 rfl ?_
    refine g_iload_n 1 C rfl dL_lend_4 rfl ?_
    refine g_iload_n 2 C rfl dL_lend_5 rfl ?_
    refine g_iload_n 3 C rfl dL_lend_6 rfl ?_
    refine g_callVOC (na := 3) (As := [.int q, .int x, .int d]) (E := eISE) (c_lend l D cI cJ hst h σ np nt no ni hI q x d 3 hK) C gL_lend_X0_lend rfl (by decide +kernel) rfl ⟨Nat.le_of_ble_eq_true rfl, Nat.le_of_ble_eq_true rfl⟩ rfl (Nat.le_of_ble_eq_true rfl) ⟨by decide, by decide⟩ dL_lend_7 htab [⟨0, 12, 15, 21⟩, ⟨0, 12, 19, 13⟩] ⟨0, 12, 23, 15⟩ [] rfl (fun z hz => (List.mem_cons.mp hz).elim (fun e9 => e9 ▸ ⟨by decide, eIOB, by decide +kernel, C.2.2.2.2.2.2.2.2.2.2.2.2.2.1⟩) (fun hz => (List.mem_singleton.mp hz) ▸ ⟨by decide, eIAE, by decide +kernel, C.2.2.2.2.2.2.2.2.2.2.2.2.2.2⟩)) (by decide) (by decide) (by decide +kernel) (by decide +kernel) (fun xq => ?_)
    refine g_astore [(5, .ref xq), (0, .ref (h 0)), (1, .int q), (2, .int x), (3, .int d), (4, .ref ho)] C dL_lend_23 (by decide) rfl ?_
    refine g_iconst 3 C dL_lend_25 (by decide) ?_
    exact g_iret C hr rfl dL_lend_26 (by decide) (by decide) rfl rfl rfl
set_option maxRecDepth 100000 in
set_option maxHeartbeats 4000000 in
theorem c_w_sell (l : Launch) (D : va_G) (cI cJ : ClassId) (hst : l.stackTraces = false) (h : Nat → Nat) (σ : gS) (np nt no ni : Nat) (hI : iA σ np nt no ni) (ho : Nat) (fo : Nat → Int64) (q x : Int32) (K : Nat) (hK : K = th_sell σ ni q x) : MC l yL_sell wsL_sell 8 161 D (tyIJ cI cJ) [.ref (h 0), .int q, .int x, .ref ho] (wO cI cJ h ho σ fo) (wO cI cJ h ho (kS K σ (s_sell σ (cl q) x)) (kF K fo (valA (s_sell σ (cl q) x) np nt ni (cl q)))) none (some (.int (nI (cdI K)))) (nT K) := by
  have hK4 : K = 0 ∨ K = 1 ∨ K = 2 ∨ K = 3 := by
    rw [hK]; unfold th_sell
    repeat' split
    all_goals simp
  refine MC.ofGH (cc := cL_sell) (maxL := 5) (ret := some .int) (hh := [(0, 10, 13, 21), (0, 10, 17, 13), (0, 10, 21, 15)]) [(0, .ref (h 0)), (1, .int q), (2, .int x), (3, .ref ho)] (by decide) rfl (Nat.le_of_ble_eq_true rfl) rfl ?_
  intro p e s m args below meth c C hr htab
  rcases hK4 with rfl | rfl | rfl | rfl
  ·
    refine g_aload_n 3 C rfl dL_sell_0 rfl ?_
    refine g_iconst 0 C dL_sell_1 (by decide) ?_
    refine g_aload_n 0 C rfl dL_sell_2 rfl ?_
    refine g_iload_n 1 C rfl dL_sell_3 rfl ?_
    refine g_iload_n 2 C rfl dL_sell_4 rfl ?_
    refine g_callVO (na := 2) (As := [.int q, .int x]) (c_sell l D cI cJ hst h σ np nt no ni hI q x 0 hK) C gL_sell_X0_sell rfl (by decide +kernel) rfl ⟨Nat.le_of_ble_eq_true rfl, Nat.le_of_ble_eq_true rfl⟩ rfl (Nat.le_of_ble_eq_true rfl) ⟨by decide, by decide⟩ dL_sell_5 ?_
    refine g_i2l C dL_sell_8 ?_
    refine g_last (cA := cJ) (n := 1) (a := ho) (f := fo) 13 1 (wO cI cJ h ho (s_sell σ (cl q) x) (kF 0 fo (valA (s_sell σ (cl q) x) np nt ni (cl q)))) C rfl rfl (vp_in_nI (n := 0) (N := 1) (by decide) (by decide)) rfl dL_sell_9 ?_
    refine g_goto 25 C dL_sell_10 (by decide) ?_
    refine g_iconst 0 C dL_sell_25 (by decide) ?_
    exact g_iret C hr rfl dL_sell_26 (by decide) (by decide) rfl rfl rfl
  ·
    refine g_aload_n 3 C rfl dL_sell_0 rfl ?_
    refine g_iconst 0 C dL_sell_1 (by decide) ?_
    refine g_aload_n 0 C rfl dL_sell_2 rfl ?_
    refine g_iload_n 1 C rfl dL_sell_3 rfl ?_
    refine g_iload_n 2 C rfl dL_sell_4 rfl ?_
    refine g_callVOC (na := 2) (As := [.int q, .int x]) (E := eIOB) (c_sell l D cI cJ hst h σ np nt no ni hI q x 1 hK) C gL_sell_X0_sell rfl (by decide +kernel) rfl ⟨Nat.le_of_ble_eq_true rfl, Nat.le_of_ble_eq_true rfl⟩ rfl (Nat.le_of_ble_eq_true rfl) ⟨by decide, by decide⟩ dL_sell_5 htab [] ⟨0, 10, 13, 21⟩ [⟨0, 10, 17, 13⟩, ⟨0, 10, 21, 15⟩] rfl (fun z hz => absurd hz List.not_mem_nil) (by decide) (by decide) (by decide +kernel) (by decide +kernel) (fun xq => ?_)
    refine g_astore [(4, .ref xq), (0, .ref (h 0)), (1, .int q), (2, .int x), (3, .ref ho)] C dL_sell_13 (by decide) rfl ?_
    refine g_iconst 1 C dL_sell_15 (by decide) ?_
    exact g_iret C hr rfl dL_sell_16 (by decide) (by decide) rfl rfl rfl
  ·
    refine g_aload_n 3 C rfl dL_sell_0 rfl ?_
    refine g_iconst 0 C dL_sell_1 (by decide) ?_
    refine g_aload_n 0 C rfl dL_sell_2 rfl ?_
    refine g_iload_n 1 C rfl dL_sell_3 rfl ?_
    refine g_iload_n 2 C rfl dL_sell_4 rfl ?_
    refine g_callVOC (na := 2) (As := [.int q, .int x]) (E := eIAE) (c_sell l D cI cJ hst h σ np nt no ni hI q x 2 hK) C gL_sell_X0_sell rfl (by decide +kernel) rfl ⟨Nat.le_of_ble_eq_true rfl, Nat.le_of_ble_eq_true rfl⟩ rfl (Nat.le_of_ble_eq_true rfl) ⟨by decide, by decide⟩ dL_sell_5 htab [⟨0, 10, 13, 21⟩] ⟨0, 10, 17, 13⟩ [⟨0, 10, 21, 15⟩] rfl (fun z hz => by rw [List.mem_singleton.mp hz]; exact ⟨by decide, eIOB, by decide +kernel, C.2.2.2.2.2.2.2.2.2.2.2.2.1⟩) (by decide) (by decide) (by decide +kernel) (by decide +kernel) (fun xq => ?_)
    refine g_astore [(4, .ref xq), (0, .ref (h 0)), (1, .int q), (2, .int x), (3, .ref ho)] C dL_sell_17 (by decide) rfl ?_
    refine g_iconst 2 C dL_sell_19 (by decide) ?_
    exact g_iret C hr rfl dL_sell_20 (by decide) (by decide) rfl rfl rfl
  ·
    refine g_aload_n 3 C rfl dL_sell_0 rfl ?_
    refine g_iconst 0 C dL_sell_1 (by decide) ?_
    refine g_aload_n 0 C rfl dL_sell_2 rfl ?_
    refine g_iload_n 1 C rfl dL_sell_3 rfl ?_
    refine g_iload_n 2 C rfl dL_sell_4 rfl ?_
    refine g_callVOC (na := 2) (As := [.int q, .int x]) (E := eISE) (c_sell l D cI cJ hst h σ np nt no ni hI q x 3 hK) C gL_sell_X0_sell rfl (by decide +kernel) rfl ⟨Nat.le_of_ble_eq_true rfl, Nat.le_of_ble_eq_true rfl⟩ rfl (Nat.le_of_ble_eq_true rfl) ⟨by decide, by decide⟩ dL_sell_5 htab [⟨0, 10, 13, 21⟩, ⟨0, 10, 17, 13⟩] ⟨0, 10, 21, 15⟩ [] rfl (fun z hz => (List.mem_cons.mp hz).elim (fun e9 => e9 ▸ ⟨by decide, eIOB, by decide +kernel, C.2.2.2.2.2.2.2.2.2.2.2.2.2.1⟩) (fun hz => (List.mem_singleton.mp hz) ▸ ⟨by decide, eIAE, by decide +kernel, C.2.2.2.2.2.2.2.2.2.2.2.2.2.2⟩)) (by decide) (by decide) (by decide +kernel) (by decide +kernel) (fun xq => ?_)
    refine g_astore [(4, .ref xq), (0, .ref (h 0)), (1, .int q), (2, .int x), (3, .ref ho)] C dL_sell_21 (by decide) rfl ?_
    refine g_iconst 3 C dL_sell_23 (by decide) ?_
    exact g_iret C hr rfl dL_sell_24 (by decide) (by decide) rfl rfl rfl
set_option maxRecDepth 100000 in
set_option maxHeartbeats 4000000 in
theorem c_w_pass (l : Launch) (D : va_G) (cI cJ : ClassId) (hst : l.stackTraces = false) (h : Nat → Nat) (σ : gS) (np nt no ni : Nat) (hI : iA σ np nt no ni) (ho : Nat) (fo : Nat → Int64) (d : Int32) (K : Nat) (hK : K = th_pass σ d) : MC l yL_pass wsL_pass 8 134 D (tyIJ cI cJ) [.ref (h 0), .int d, .ref ho] (wO cI cJ h ho σ fo) (wO cI cJ h ho (kS K σ (sS (pfls σ d ni) 4 (σ.1 4 + d))) (kF K fo (σ.1 4 + d))) none (some (.int (nI (cdA K)))) (nT K) := by
  have hK4 : K = 0 ∨ K = 2 ∨ K = 3 := by
    rw [hK]; unfold th_pass
    repeat' split
    all_goals simp
  refine MC.ofGH (cc := cL_pass) (maxL := 4) (ret := some .int) (hh := [(0, 9, 12, 13), (0, 9, 15, 15)]) [(0, .ref (h 0)), (1, .int d), (2, .ref ho)] (by decide) rfl (Nat.le_of_ble_eq_true rfl) rfl ?_
  intro p e s m args below meth c C hr htab
  rcases hK4 with rfl | rfl | rfl
  ·
    refine g_aload_n 2 C rfl dL_pass_0 rfl ?_
    refine g_iconst 0 C dL_pass_1 (by decide) ?_
    refine g_aload_n 0 C rfl dL_pass_2 rfl ?_
    refine g_iload_n 1 C rfl dL_pass_3 rfl ?_
    refine g_callVO (na := 1) (As := [.int d]) (c_pass l D cI cJ hst h σ np nt no ni hI d 0 hK) C gL_pass_X0_pass rfl (by decide +kernel) rfl ⟨Nat.le_of_ble_eq_true rfl, Nat.le_of_ble_eq_true rfl⟩ rfl (Nat.le_of_ble_eq_true rfl) ⟨by decide, by decide⟩ dL_pass_4 ?_
    refine g_i2l C dL_pass_7 ?_
    refine g_last (cA := cJ) (n := 1) (a := ho) (f := fo) 13 1 (wO cI cJ h ho (sS (pfls σ d ni) 4 (σ.1 4 + d)) (kF 0 fo (σ.1 4 + d))) C rfl rfl (vp_in_nI (n := 0) (N := 1) (by decide) (by decide)) rfl dL_pass_8 ?_
    refine g_goto 18 C dL_pass_9 (by decide) ?_
    refine g_iconst 0 C dL_pass_18 (by decide) ?_
    exact g_iret C hr rfl dL_pass_19 (by decide) (by decide) rfl rfl rfl
  ·
    refine g_aload_n 2 C rfl dL_pass_0 rfl ?_
    refine g_iconst 0 C dL_pass_1 (by decide) ?_
    refine g_aload_n 0 C rfl dL_pass_2 rfl ?_
    refine g_iload_n 1 C rfl dL_pass_3 rfl ?_
    refine g_callVOC (na := 1) (As := [.int d]) (E := eIAE) (c_pass l D cI cJ hst h σ np nt no ni hI d 2 hK) C gL_pass_X0_pass rfl (by decide +kernel) rfl ⟨Nat.le_of_ble_eq_true rfl, Nat.le_of_ble_eq_true rfl⟩ rfl (Nat.le_of_ble_eq_true rfl) ⟨by decide, by decide⟩ dL_pass_4 htab [] ⟨0, 9, 12, 13⟩ [⟨0, 9, 15, 15⟩] rfl (fun z hz => absurd hz List.not_mem_nil) (by decide) (by decide) (by decide +kernel) (by decide +kernel) (fun xq => ?_)
    refine g_astore_n [(3, .ref xq), (0, .ref (h 0)), (1, .int d), (2, .ref ho)] C dL_pass_12 rfl (by decide) rfl ?_
    refine g_iconst 1 C dL_pass_13 (by decide) ?_
    exact g_iret C hr rfl dL_pass_14 (by decide) (by decide) rfl rfl rfl
  ·
    refine g_aload_n 2 C rfl dL_pass_0 rfl ?_
    refine g_iconst 0 C dL_pass_1 (by decide) ?_
    refine g_aload_n 0 C rfl dL_pass_2 rfl ?_
    refine g_iload_n 1 C rfl dL_pass_3 rfl ?_
    refine g_callVOC (na := 1) (As := [.int d]) (E := eISE) (c_pass l D cI cJ hst h σ np nt no ni hI d 3 hK) C gL_pass_X0_pass rfl (by decide +kernel) rfl ⟨Nat.le_of_ble_eq_true rfl, Nat.le_of_ble_eq_true rfl⟩ rfl (Nat.le_of_ble_eq_true rfl) ⟨by decide, by decide⟩ dL_pass_4 htab [⟨0, 9, 12, 13⟩] ⟨0, 9, 15, 15⟩ [] rfl (fun z hz => by rw [List.mem_singleton.mp hz]; exact ⟨by decide, eIAE, by decide +kernel, C.2.2.2.2.2.2.2.2.2.2.2.2.2.2⟩) (by decide) (by decide) (by decide +kernel) (by decide +kernel) (fun xq => ?_)
    refine g_astore_n [(3, .ref xq), (0, .ref (h 0)), (1, .int d), (2, .ref ho)] C dL_pass_15 rfl (by decide) rfl ?_
    refine g_iconst 2 C dL_pass_16 (by decide) ?_
    exact g_iret C hr rfl dL_pass_17 (by decide) (by decide) rfl rfl rfl
set_option maxRecDepth 100000 in
set_option maxHeartbeats 4000000 in
theorem c_w_left (l : Launch) (D : va_G) (cI cJ : ClassId) (hst : l.stackTraces = false) (h : Nat → Nat) (σ : gS) (np nt no ni : Nat) (hI : iA σ np nt no ni) (ho : Nat) (fo : Nat → Int64) (t : Int32) (K : Nat) (hK : K = th_left nt t) : MC l yL_left wsL_left 8 132 D (tyIJ cI cJ) [.ref (h 0), .int t, .ref ho] (wO cI cJ h ho σ fo) (wO cI cJ h ho (kS K σ (σ)) (kF K fo (σ.2 2 (cl t)))) none (some (.int (nI (cdI K)))) (nT K) := by
  have hK4 : K = 0 ∨ K = 1 := by
    rw [hK]; unfold th_left
    repeat' split
    all_goals simp
  refine MC.ofGH (cc := cL_left) (maxL := 4) (ret := some .int) (hh := [(0, 9, 12, 21)]) [(0, .ref (h 0)), (1, .int t), (2, .ref ho)] (by decide) rfl (Nat.le_of_ble_eq_true rfl) rfl ?_
  intro p e s m args below meth c C hr htab
  rcases hK4 with rfl | rfl
  ·
    refine g_aload_n 2 C rfl dL_left_0 rfl ?_
    refine g_iconst 0 C dL_left_1 (by decide) ?_
    refine g_aload_n 0 C rfl dL_left_2 rfl ?_
    refine g_iload_n 1 C rfl dL_left_3 rfl ?_
    refine g_callVO (na := 1) (As := [.int t]) (c_left l D cI cJ hst h σ np nt no ni hI t 0 hK) C gL_left_X0_left rfl (by decide +kernel) rfl ⟨Nat.le_of_ble_eq_true rfl, Nat.le_of_ble_eq_true rfl⟩ rfl (Nat.le_of_ble_eq_true rfl) ⟨by decide, by decide⟩ dL_left_4 ?_
    refine g_i2l C dL_left_7 ?_
    refine g_last (cA := cJ) (n := 1) (a := ho) (f := fo) 13 1 (wO cI cJ h ho (σ) (kF 0 fo (σ.2 2 (cl t)))) C rfl rfl (vp_in_nI (n := 0) (N := 1) (by decide) (by decide)) rfl dL_left_8 ?_
    refine g_goto 15 C dL_left_9 (by decide) ?_
    refine g_iconst 0 C dL_left_15 (by decide) ?_
    exact g_iret C hr rfl dL_left_16 (by decide) (by decide) rfl rfl rfl
  ·
    refine g_aload_n 2 C rfl dL_left_0 rfl ?_
    refine g_iconst 0 C dL_left_1 (by decide) ?_
    refine g_aload_n 0 C rfl dL_left_2 rfl ?_
    refine g_iload_n 1 C rfl dL_left_3 rfl ?_
    refine g_callVOC (na := 1) (As := [.int t]) (E := eIOB) (c_left l D cI cJ hst h σ np nt no ni hI t 1 hK) C gL_left_X0_left rfl (by decide +kernel) rfl ⟨Nat.le_of_ble_eq_true rfl, Nat.le_of_ble_eq_true rfl⟩ rfl (Nat.le_of_ble_eq_true rfl) ⟨by decide, by decide⟩ dL_left_4 htab [] ⟨0, 9, 12, 21⟩ [] rfl (fun z hz => absurd hz List.not_mem_nil) (by decide) (by decide) (by decide +kernel) (by decide +kernel) (fun xq => ?_)
    refine g_astore_n [(3, .ref xq), (0, .ref (h 0)), (1, .int t), (2, .ref ho)] C dL_left_12 rfl (by decide) rfl ?_
    refine g_iconst 1 C dL_left_13 (by decide) ?_
    exact g_iret C hr rfl dL_left_14 (by decide) (by decide) rfl rfl rfl
set_option maxRecDepth 100000 in
set_option maxHeartbeats 4000000 in
theorem c_w_has (l : Launch) (D : va_G) (cI cJ : ClassId) (hst : l.stackTraces = false) (h : Nat → Nat) (σ : gS) (np nt no ni : Nat) (hI : iA σ np nt no ni) (ho : Nat) (fo : Nat → Int64) (x t : Int32) (K : Nat) (hK : K = th_has nt no x t) : MC l yL_has wsL_has 8 133 D (tyIJ cI cJ) [.ref (h 0), .int x, .int t, .ref ho] (wO cI cJ h ho σ fo) (wO cI cJ h ho (kS K σ (σ)) (kF K fo (r_has σ nt (cl x) t))) none (some (.int (nI (cdI K)))) (nT K) := by
  have hK4 : K = 0 ∨ K = 1 := by
    rw [hK]; unfold th_has
    repeat' split
    all_goals simp
  refine MC.ofGH (cc := cL_has) (maxL := 5) (ret := some .int) (hh := [(0, 10, 13, 21)]) [(0, .ref (h 0)), (1, .int x), (2, .int t), (3, .ref ho)] (by decide) rfl (Nat.le_of_ble_eq_true rfl) rfl ?_
  intro p e s m args below meth c C hr htab
  rcases hK4 with rfl | rfl
  ·
    refine g_aload_n 3 C rfl dL_has_0 rfl ?_
    refine g_iconst 0 C dL_has_1 (by decide) ?_
    refine g_aload_n 0 C rfl dL_has_2 rfl ?_
    refine g_iload_n 1 C rfl dL_has_3 rfl ?_
    refine g_iload_n 2 C rfl dL_has_4 rfl ?_
    refine g_callVO (na := 2) (As := [.int x, .int t]) (c_has l D cI cJ hst h σ np nt no ni hI x t 0 hK) C gL_has_X0_has rfl (by decide +kernel) rfl ⟨Nat.le_of_ble_eq_true rfl, Nat.le_of_ble_eq_true rfl⟩ rfl (Nat.le_of_ble_eq_true rfl) ⟨by decide, by decide⟩ dL_has_5 ?_
    refine g_i2l C dL_has_8 ?_
    refine g_last (cA := cJ) (n := 1) (a := ho) (f := fo) 13 1 (wO cI cJ h ho (σ) (kF 0 fo (r_has σ nt (cl x) t))) C rfl rfl (vp_in_nI (n := 0) (N := 1) (by decide) (by decide)) rfl dL_has_9 ?_
    refine g_goto 17 C dL_has_10 (by decide) ?_
    refine g_iconst 0 C dL_has_17 (by decide) ?_
    exact g_iret C hr rfl dL_has_18 (by decide) (by decide) rfl rfl rfl
  ·
    refine g_aload_n 3 C rfl dL_has_0 rfl ?_
    refine g_iconst 0 C dL_has_1 (by decide) ?_
    refine g_aload_n 0 C rfl dL_has_2 rfl ?_
    refine g_iload_n 1 C rfl dL_has_3 rfl ?_
    refine g_iload_n 2 C rfl dL_has_4 rfl ?_
    refine g_callVOC (na := 2) (As := [.int x, .int t]) (E := eIOB) (c_has l D cI cJ hst h σ np nt no ni hI x t 1 hK) C gL_has_X0_has rfl (by decide +kernel) rfl ⟨Nat.le_of_ble_eq_true rfl, Nat.le_of_ble_eq_true rfl⟩ rfl (Nat.le_of_ble_eq_true rfl) ⟨by decide, by decide⟩ dL_has_5 htab [] ⟨0, 10, 13, 21⟩ [] rfl (fun z hz => absurd hz List.not_mem_nil) (by decide) (by decide) (by decide +kernel) (by decide +kernel) (fun xq => ?_)
    refine g_astore [(4, .ref xq), (0, .ref (h 0)), (1, .int x), (2, .int t), (3, .ref ho)] C dL_has_13 (by decide) rfl ?_
    refine g_iconst 1 C dL_has_15 (by decide) ?_
    exact g_iret C hr rfl dL_has_16 (by decide) (by decide) rfl rfl rfl
set_option maxRecDepth 100000 in
set_option maxHeartbeats 4000000 in
theorem c_w_colour (l : Launch) (D : va_G) (cI cJ : ClassId) (hst : l.stackTraces = false) (h : Nat → Nat) (σ : gS) (np nt no ni : Nat) (hI : iA σ np nt no ni) (ho : Nat) (fo : Nat → Int64) (x v : Int32) (K : Nat) (hK : K = th_colour no x v) : MC l yL_colour wsL_colour 8 134 D (tyIJ cI cJ) [.ref (h 0), .int x, .int v, .ref ho] (wO cI cJ h ho σ fo) (wO cI cJ h ho (kS K σ (σ)) (kF K fo (colR σ nt (cl x) (cl v)))) none (some (.int (nI (cdI K)))) (nT K) := by
  have hK4 : K = 0 ∨ K = 1 ∨ K = 2 := by
    rw [hK]; unfold th_colour
    repeat' split
    all_goals simp
  refine MC.ofGH (cc := cL_colour) (maxL := 5) (ret := some .int) (hh := [(0, 10, 13, 21), (0, 10, 17, 13)]) [(0, .ref (h 0)), (1, .int x), (2, .int v), (3, .ref ho)] (by decide) rfl (Nat.le_of_ble_eq_true rfl) rfl ?_
  intro p e s m args below meth c C hr htab
  rcases hK4 with rfl | rfl | rfl
  ·
    refine g_aload_n 3 C rfl dL_colour_0 rfl ?_
    refine g_iconst 0 C dL_colour_1 (by decide) ?_
    refine g_aload_n 0 C rfl dL_colour_2 rfl ?_
    refine g_iload_n 1 C rfl dL_colour_3 rfl ?_
    refine g_iload_n 2 C rfl dL_colour_4 rfl ?_
    refine g_callVO (na := 2) (As := [.int x, .int v]) (c_colour l D cI cJ hst h σ np nt no ni hI x v 0 hK) C gL_colour_X0_colour rfl (by decide +kernel) rfl ⟨Nat.le_of_ble_eq_true rfl, Nat.le_of_ble_eq_true rfl⟩ rfl (Nat.le_of_ble_eq_true rfl) ⟨by decide, by decide⟩ dL_colour_5 ?_
    refine g_i2l C dL_colour_8 ?_
    refine g_last (cA := cJ) (n := 1) (a := ho) (f := fo) 13 1 (wO cI cJ h ho (σ) (kF 0 fo (colR σ nt (cl x) (cl v)))) C rfl rfl (vp_in_nI (n := 0) (N := 1) (by decide) (by decide)) rfl dL_colour_9 ?_
    refine g_goto 21 C dL_colour_10 (by decide) ?_
    refine g_iconst 0 C dL_colour_21 (by decide) ?_
    exact g_iret C hr rfl dL_colour_22 (by decide) (by decide) rfl rfl rfl
  ·
    refine g_aload_n 3 C rfl dL_colour_0 rfl ?_
    refine g_iconst 0 C dL_colour_1 (by decide) ?_
    refine g_aload_n 0 C rfl dL_colour_2 rfl ?_
    refine g_iload_n 1 C rfl dL_colour_3 rfl ?_
    refine g_iload_n 2 C rfl dL_colour_4 rfl ?_
    refine g_callVOC (na := 2) (As := [.int x, .int v]) (E := eIOB) (c_colour l D cI cJ hst h σ np nt no ni hI x v 1 hK) C gL_colour_X0_colour rfl (by decide +kernel) rfl ⟨Nat.le_of_ble_eq_true rfl, Nat.le_of_ble_eq_true rfl⟩ rfl (Nat.le_of_ble_eq_true rfl) ⟨by decide, by decide⟩ dL_colour_5 htab [] ⟨0, 10, 13, 21⟩ [⟨0, 10, 17, 13⟩] rfl (fun z hz => absurd hz List.not_mem_nil) (by decide) (by decide) (by decide +kernel) (by decide +kernel) (fun xq => ?_)
    refine g_astore [(4, .ref xq), (0, .ref (h 0)), (1, .int x), (2, .int v), (3, .ref ho)] C dL_colour_13 (by decide) rfl ?_
    refine g_iconst 1 C dL_colour_15 (by decide) ?_
    exact g_iret C hr rfl dL_colour_16 (by decide) (by decide) rfl rfl rfl
  ·
    refine g_aload_n 3 C rfl dL_colour_0 rfl ?_
    refine g_iconst 0 C dL_colour_1 (by decide) ?_
    refine g_aload_n 0 C rfl dL_colour_2 rfl ?_
    refine g_iload_n 1 C rfl dL_colour_3 rfl ?_
    refine g_iload_n 2 C rfl dL_colour_4 rfl ?_
    refine g_callVOC (na := 2) (As := [.int x, .int v]) (E := eIAE) (c_colour l D cI cJ hst h σ np nt no ni hI x v 2 hK) C gL_colour_X0_colour rfl (by decide +kernel) rfl ⟨Nat.le_of_ble_eq_true rfl, Nat.le_of_ble_eq_true rfl⟩ rfl (Nat.le_of_ble_eq_true rfl) ⟨by decide, by decide⟩ dL_colour_5 htab [⟨0, 10, 13, 21⟩] ⟨0, 10, 17, 13⟩ [] rfl (fun z hz => by rw [List.mem_singleton.mp hz]; exact ⟨by decide, eIOB, by decide +kernel, C.2.2.2.2.2.2.2.2.2.2.2.2.1⟩) (by decide) (by decide) (by decide +kernel) (by decide +kernel) (fun xq => ?_)
    refine g_astore [(4, .ref xq), (0, .ref (h 0)), (1, .int x), (2, .int v), (3, .ref ho)] C dL_colour_17 (by decide) rfl ?_
    refine g_iconst 2 C dL_colour_19 (by decide) ?_
    exact g_iret C hr rfl dL_colour_20 (by decide) (by decide) rfl rfl rfl
set_option maxRecDepth 100000 in
set_option maxHeartbeats 4000000 in
theorem c_w_of (l : Launch) (D : va_G) (cI cJ : ClassId) (hst : l.stackTraces = false) (h : Nat → Nat) (σ : gS) (np nt no ni : Nat) (hI : iA σ np nt no ni) (ho : Nat) (fo : Nat → Int64) (q v : Int32) (K : Nat) (hK : K = th_of ni q v) : MC l yL_of wsL_of 8 161 D (tyIJ cI cJ) [.ref (h 0), .int q, .int v, .ref ho] (wO cI cJ h ho σ fo) (wO cI cJ h ho (kS K σ (σ)) (kF K fo (r_of σ np nt ni (cl q) (cl v)))) none (some (.int (nI (cdI K)))) (nT K) := by
  have hK4 : K = 0 ∨ K = 1 ∨ K = 2 := by
    rw [hK]; unfold th_of
    repeat' split
    all_goals simp
  refine MC.ofGH (cc := cL_of) (maxL := 5) (ret := some .int) (hh := [(0, 10, 13, 21), (0, 10, 17, 13)]) [(0, .ref (h 0)), (1, .int q), (2, .int v), (3, .ref ho)] (by decide) rfl (Nat.le_of_ble_eq_true rfl) rfl ?_
  intro p e s m args below meth c C hr htab
  rcases hK4 with rfl | rfl | rfl
  ·
    refine g_aload_n 3 C rfl dL_of_0 rfl ?_
    refine g_iconst 0 C dL_of_1 (by decide) ?_
    refine g_aload_n 0 C rfl dL_of_2 rfl ?_
    refine g_iload_n 1 C rfl dL_of_3 rfl ?_
    refine g_iload_n 2 C rfl dL_of_4 rfl ?_
    refine g_callVO (na := 2) (As := [.int q, .int v]) (c_of l D cI cJ hst h σ np nt no ni hI q v 0 hK) C gL_of_X0_of rfl (by decide +kernel) rfl ⟨Nat.le_of_ble_eq_true rfl, Nat.le_of_ble_eq_true rfl⟩ rfl (Nat.le_of_ble_eq_true rfl) ⟨by decide, by decide⟩ dL_of_5 ?_
    refine g_i2l C dL_of_8 ?_
    refine g_last (cA := cJ) (n := 1) (a := ho) (f := fo) 13 1 (wO cI cJ h ho (σ) (kF 0 fo (r_of σ np nt ni (cl q) (cl v)))) C rfl rfl (vp_in_nI (n := 0) (N := 1) (by decide) (by decide)) rfl dL_of_9 ?_
    refine g_goto 21 C dL_of_10 (by decide) ?_
    refine g_iconst 0 C dL_of_21 (by decide) ?_
    exact g_iret C hr rfl dL_of_22 (by decide) (by decide) rfl rfl rfl
  ·
    refine g_aload_n 3 C rfl dL_of_0 rfl ?_
    refine g_iconst 0 C dL_of_1 (by decide) ?_
    refine g_aload_n 0 C rfl dL_of_2 rfl ?_
    refine g_iload_n 1 C rfl dL_of_3 rfl ?_
    refine g_iload_n 2 C rfl dL_of_4 rfl ?_
    refine g_callVOC (na := 2) (As := [.int q, .int v]) (E := eIOB) (c_of l D cI cJ hst h σ np nt no ni hI q v 1 hK) C gL_of_X0_of rfl (by decide +kernel) rfl ⟨Nat.le_of_ble_eq_true rfl, Nat.le_of_ble_eq_true rfl⟩ rfl (Nat.le_of_ble_eq_true rfl) ⟨by decide, by decide⟩ dL_of_5 htab [] ⟨0, 10, 13, 21⟩ [⟨0, 10, 17, 13⟩] rfl (fun z hz => absurd hz List.not_mem_nil) (by decide) (by decide) (by decide +kernel) (by decide +kernel) (fun xq => ?_)
    refine g_astore [(4, .ref xq), (0, .ref (h 0)), (1, .int q), (2, .int v), (3, .ref ho)] C dL_of_13 (by decide) rfl ?_
    refine g_iconst 1 C dL_of_15 (by decide) ?_
    exact g_iret C hr rfl dL_of_16 (by decide) (by decide) rfl rfl rfl
  ·
    refine g_aload_n 3 C rfl dL_of_0 rfl ?_
    refine g_iconst 0 C dL_of_1 (by decide) ?_
    refine g_aload_n 0 C rfl dL_of_2 rfl ?_
    refine g_iload_n 1 C rfl dL_of_3 rfl ?_
    refine g_iload_n 2 C rfl dL_of_4 rfl ?_
    refine g_callVOC (na := 2) (As := [.int q, .int v]) (E := eIAE) (c_of l D cI cJ hst h σ np nt no ni hI q v 2 hK) C gL_of_X0_of rfl (by decide +kernel) rfl ⟨Nat.le_of_ble_eq_true rfl, Nat.le_of_ble_eq_true rfl⟩ rfl (Nat.le_of_ble_eq_true rfl) ⟨by decide, by decide⟩ dL_of_5 htab [⟨0, 10, 13, 21⟩] ⟨0, 10, 17, 13⟩ [] rfl (fun z hz => by rw [List.mem_singleton.mp hz]; exact ⟨by decide, eIOB, by decide +kernel, C.2.2.2.2.2.2.2.2.2.2.2.2.1⟩) (by decide) (by decide) (by decide +kernel) (by decide +kernel) (fun xq => ?_)
    refine g_astore [(4, .ref xq), (0, .ref (h 0)), (1, .int q), (2, .int v), (3, .ref ho)] C dL_of_17 (by decide) rfl ?_
    refine g_iconst 2 C dL_of_19 (by decide) ?_
    exact g_iret C hr rfl dL_of_20 (by decide) (by decide) rfl rfl rfl
set_option maxRecDepth 100000 in
set_option maxHeartbeats 4000000 in
theorem c_w_layer (l : Launch) (D : va_G) (cI cJ : ClassId) (hst : l.stackTraces = false) (h : Nat → Nat) (σ : gS) (np nt no ni : Nat) (hI : iA σ np nt no ni) (ho : Nat) (fo : Nat → Int64) (q k t : Int32) (K : Nat) (hK : K = th_layer σ nt ni q k t) : MC l yL_layer wsL_layer 8 134 D (tyIJ cI cJ) [.ref (h 0), .int q, .int k, .int t, .ref ho] (wO cI cJ h ho σ fo) (wO cI cJ h ho (kS K σ (σ)) (kF K fo (σ.2 3 ((10 + cl q * 12 + cl k) * 12 + cl t)))) none (some (.int (nI (cdI K)))) (nT K) := by
  have hK4 : K = 0 ∨ K = 1 := by
    rw [hK]; unfold th_layer
    repeat' split
    all_goals simp
  refine MC.ofGH (cc := cL_layer) (maxL := 6) (ret := some .int) (hh := [(0, 12, 15, 21)]) [(0, .ref (h 0)), (1, .int q), (2, .int k), (3, .int t), (4, .ref ho)] (by decide) rfl (Nat.le_of_ble_eq_true rfl) rfl ?_
  intro p e s m args below meth c C hr htab
  rcases hK4 with rfl | rfl
  ·
    refine g_aload 4 C rfl dL_layer_0 ?_
    refine g_iconst 0 C dL_layer_2 (by decide) ?_
    refine g_aload_n 0 C rfl dL_layer_3 rfl ?_
    refine g_iload_n 1 C rfl dL_layer_4 rfl ?_
    refine g_iload_n 2 C rfl dL_layer_5 rfl ?_
    refine g_iload_n 3 C rfl dL_layer_6 rfl ?_
    refine g_callVO (na := 3) (As := [.int q, .int k, .int t]) (c_layer l D cI cJ hst h σ np nt no ni hI q k t 0 hK) C gL_layer_X0_layer rfl (by decide +kernel) rfl ⟨Nat.le_of_ble_eq_true rfl, Nat.le_of_ble_eq_true rfl⟩ rfl (Nat.le_of_ble_eq_true rfl) ⟨by decide, by decide⟩ dL_layer_7 ?_
    refine g_i2l C dL_layer_10 ?_
    refine g_last (cA := cJ) (n := 1) (a := ho) (f := fo) 13 1 (wO cI cJ h ho (σ) (kF 0 fo (σ.2 3 ((10 + cl q * 12 + cl k) * 12 + cl t)))) C rfl rfl (vp_in_nI (n := 0) (N := 1) (by decide) (by decide)) rfl dL_layer_11 ?_
    refine g_goto 19 C dL_layer_12 (by decide) ?_
    refine g_iconst 0 C dL_layer_19 (by decide) ?_
    exact g_iret C hr rfl dL_layer_20 (by decide) (by decide) rfl rfl rfl
  ·
    refine g_aload 4 C rfl dL_layer_0 ?_
    refine g_iconst 0 C dL_layer_2 (by decide) ?_
    refine g_aload_n 0 C rfl dL_layer_3 rfl ?_
    refine g_iload_n 1 C rfl dL_layer_4 rfl ?_
    refine g_iload_n 2 C rfl dL_layer_5 rfl ?_
    refine g_iload_n 3 C rfl dL_layer_6 rfl ?_
    refine g_callVOC (na := 3) (As := [.int q, .int k, .int t]) (E := eIOB) (c_layer l D cI cJ hst h σ np nt no ni hI q k t 1 hK) C gL_layer_X0_layer rfl (by decide +kernel) rfl ⟨Nat.le_of_ble_eq_true rfl, Nat.le_of_ble_eq_true rfl⟩ rfl (Nat.le_of_ble_eq_true rfl) ⟨by decide, by decide⟩ dL_layer_7 htab [] ⟨0, 12, 15, 21⟩ [] rfl (fun z hz => absurd hz List.not_mem_nil) (by decide) (by decide) (by decide +kernel) (by decide +kernel) (fun xq => ?_)
    refine g_astore [(5, .ref xq), (0, .ref (h 0)), (1, .int q), (2, .int k), (3, .int t), (4, .ref ho)] C dL_layer_15 (by decide) rfl ?_
    refine g_iconst 1 C dL_layer_17 (by decide) ?_
    exact g_iret C hr rfl dL_layer_18 (by decide) (by decide) rfl rfl rfl
set_option maxRecDepth 100000 in
set_option maxHeartbeats 4000000 in
theorem c_w_where (l : Launch) (D : va_G) (cI cJ : ClassId) (hst : l.stackTraces = false) (h : Nat → Nat) (σ : gS) (np nt no ni : Nat) (hI : iA σ np nt no ni) (ho : Nat) (fo : Nat → Int64) (t v : Int32) (K : Nat) (hK : K = th_where nt t v) : MC l yL_where wsL_where 8 134 D (tyIJ cI cJ) [.ref (h 0), .int t, .int v, .ref ho] (wO cI cJ h ho σ fo) (wO cI cJ h ho (kS K σ (σ)) (kF K fo (r_where σ (cl t) (cl v)))) none (some (.int (nI (cdI K)))) (nT K) := by
  have hK4 : K = 0 ∨ K = 1 ∨ K = 2 := by
    rw [hK]; unfold th_where
    repeat' split
    all_goals simp
  refine MC.ofGH (cc := cL_where) (maxL := 5) (ret := some .int) (hh := [(0, 10, 13, 21), (0, 10, 17, 13)]) [(0, .ref (h 0)), (1, .int t), (2, .int v), (3, .ref ho)] (by decide) rfl (Nat.le_of_ble_eq_true rfl) rfl ?_
  intro p e s m args below meth c C hr htab
  rcases hK4 with rfl | rfl | rfl
  ·
    refine g_aload_n 3 C rfl dL_where_0 rfl ?_
    refine g_iconst 0 C dL_where_1 (by decide) ?_
    refine g_aload_n 0 C rfl dL_where_2 rfl ?_
    refine g_iload_n 1 C rfl dL_where_3 rfl ?_
    refine g_iload_n 2 C rfl dL_where_4 rfl ?_
    refine g_callVO (na := 2) (As := [.int t, .int v]) (c_where l D cI cJ hst h σ np nt no ni hI t v 0 hK) C gL_where_X0_where rfl (by decide +kernel) rfl ⟨Nat.le_of_ble_eq_true rfl, Nat.le_of_ble_eq_true rfl⟩ rfl (Nat.le_of_ble_eq_true rfl) ⟨by decide, by decide⟩ dL_where_5 ?_
    refine g_i2l C dL_where_8 ?_
    refine g_last (cA := cJ) (n := 1) (a := ho) (f := fo) 13 1 (wO cI cJ h ho (σ) (kF 0 fo (r_where σ (cl t) (cl v)))) C rfl rfl (vp_in_nI (n := 0) (N := 1) (by decide) (by decide)) rfl dL_where_9 ?_
    refine g_goto 21 C dL_where_10 (by decide) ?_
    refine g_iconst 0 C dL_where_21 (by decide) ?_
    exact g_iret C hr rfl dL_where_22 (by decide) (by decide) rfl rfl rfl
  ·
    refine g_aload_n 3 C rfl dL_where_0 rfl ?_
    refine g_iconst 0 C dL_where_1 (by decide) ?_
    refine g_aload_n 0 C rfl dL_where_2 rfl ?_
    refine g_iload_n 1 C rfl dL_where_3 rfl ?_
    refine g_iload_n 2 C rfl dL_where_4 rfl ?_
    refine g_callVOC (na := 2) (As := [.int t, .int v]) (E := eIOB) (c_where l D cI cJ hst h σ np nt no ni hI t v 1 hK) C gL_where_X0_where rfl (by decide +kernel) rfl ⟨Nat.le_of_ble_eq_true rfl, Nat.le_of_ble_eq_true rfl⟩ rfl (Nat.le_of_ble_eq_true rfl) ⟨by decide, by decide⟩ dL_where_5 htab [] ⟨0, 10, 13, 21⟩ [⟨0, 10, 17, 13⟩] rfl (fun z hz => absurd hz List.not_mem_nil) (by decide) (by decide) (by decide +kernel) (by decide +kernel) (fun xq => ?_)
    refine g_astore [(4, .ref xq), (0, .ref (h 0)), (1, .int t), (2, .int v), (3, .ref ho)] C dL_where_13 (by decide) rfl ?_
    refine g_iconst 1 C dL_where_15 (by decide) ?_
    exact g_iret C hr rfl dL_where_16 (by decide) (by decide) rfl rfl rfl
  ·
    refine g_aload_n 3 C rfl dL_where_0 rfl ?_
    refine g_iconst 0 C dL_where_1 (by decide) ?_
    refine g_aload_n 0 C rfl dL_where_2 rfl ?_
    refine g_iload_n 1 C rfl dL_where_3 rfl ?_
    refine g_iload_n 2 C rfl dL_where_4 rfl ?_
    refine g_callVOC (na := 2) (As := [.int t, .int v]) (E := eIAE) (c_where l D cI cJ hst h σ np nt no ni hI t v 2 hK) C gL_where_X0_where rfl (by decide +kernel) rfl ⟨Nat.le_of_ble_eq_true rfl, Nat.le_of_ble_eq_true rfl⟩ rfl (Nat.le_of_ble_eq_true rfl) ⟨by decide, by decide⟩ dL_where_5 htab [⟨0, 10, 13, 21⟩] ⟨0, 10, 17, 13⟩ [] rfl (fun z hz => by rw [List.mem_singleton.mp hz]; exact ⟨by decide, eIOB, by decide +kernel, C.2.2.2.2.2.2.2.2.2.2.2.2.1⟩) (by decide) (by decide) (by decide +kernel) (by decide +kernel) (fun xq => ?_)
    refine g_astore [(4, .ref xq), (0, .ref (h 0)), (1, .int t), (2, .int v), (3, .ref ho)] C dL_where_17 (by decide) rfl ?_
    refine g_iconst 2 C dL_where_19 (by decide) ?_
    exact g_iret C hr rfl dL_where_20 (by decide) (by decide) rfl rfl rfl
set_option maxRecDepth 100000 in
set_option maxHeartbeats 4000000 in
theorem c_w_recipe (l : Launch) (D : va_G) (cI cJ : ClassId) (hst : l.stackTraces = false) (h : Nat → Nat) (σ : gS) (np nt no ni : Nat) (hI : iA σ np nt no ni) (ho : Nat) (fo : Nat → Int64) (r g b : Int32) (K : Nat) (hK : K = th_recipe r g b) : MC l yL_recipe wsL_recipe 9 163 D (tyIJ cI cJ) [.ref (h 0), .int r, .int g, .int b, .ref ho] (wO cI cJ h ho σ fo) (wO cI cJ h ho (kS K σ (σ)) (kF K fo ((rA σ r g b nt nt).1))) none (some (.int (nI (cdA K)))) (nT K) := by
  have hK4 : K = 0 ∨ K = 2 := by
    rw [hK]; unfold th_recipe
    repeat' split
    all_goals simp
  refine MC.ofGH (cc := cL_recipe) (maxL := 6) (ret := some .int) (hh := [(0, 12, 15, 13)]) [(0, .ref (h 0)), (1, .int r), (2, .int g), (3, .int b), (4, .ref ho)] (by decide) rfl (Nat.le_of_ble_eq_true rfl) rfl ?_
  intro p e s m args below meth c C hr htab
  rcases hK4 with rfl | rfl
  ·
    refine g_aload 4 C rfl dL_recipe_0 ?_
    refine g_iconst 0 C dL_recipe_2 (by decide) ?_
    refine g_aload_n 0 C rfl dL_recipe_3 rfl ?_
    refine g_iload_n 1 C rfl dL_recipe_4 rfl ?_
    refine g_iload_n 2 C rfl dL_recipe_5 rfl ?_
    refine g_iload_n 3 C rfl dL_recipe_6 rfl ?_
    refine g_callVO (na := 3) (As := [.int r, .int g, .int b]) (c_recipe l D cI cJ hst h σ np nt no ni hI r g b 0 hK) C gL_recipe_X0_recipe rfl (by decide +kernel) rfl ⟨Nat.le_of_ble_eq_true rfl, Nat.le_of_ble_eq_true rfl⟩ rfl (Nat.le_of_ble_eq_true rfl) ⟨by decide, by decide⟩ dL_recipe_7 ?_
    refine g_i2l C dL_recipe_10 ?_
    refine g_last (cA := cJ) (n := 1) (a := ho) (f := fo) 13 1 (wO cI cJ h ho (σ) (kF 0 fo ((rA σ r g b nt nt).1))) C rfl rfl (vp_in_nI (n := 0) (N := 1) (by decide) (by decide)) rfl dL_recipe_11 ?_
    refine g_goto 19 C dL_recipe_12 (by decide) ?_
    refine g_iconst 0 C dL_recipe_19 (by decide) ?_
    exact g_iret C hr rfl dL_recipe_20 (by decide) (by decide) rfl rfl rfl
  ·
    refine g_aload 4 C rfl dL_recipe_0 ?_
    refine g_iconst 0 C dL_recipe_2 (by decide) ?_
    refine g_aload_n 0 C rfl dL_recipe_3 rfl ?_
    refine g_iload_n 1 C rfl dL_recipe_4 rfl ?_
    refine g_iload_n 2 C rfl dL_recipe_5 rfl ?_
    refine g_iload_n 3 C rfl dL_recipe_6 rfl ?_
    refine g_callVOC (na := 3) (As := [.int r, .int g, .int b]) (E := eIAE) (c_recipe l D cI cJ hst h σ np nt no ni hI r g b 2 hK) C gL_recipe_X0_recipe rfl (by decide +kernel) rfl ⟨Nat.le_of_ble_eq_true rfl, Nat.le_of_ble_eq_true rfl⟩ rfl (Nat.le_of_ble_eq_true rfl) ⟨by decide, by decide⟩ dL_recipe_7 htab [] ⟨0, 12, 15, 13⟩ [] rfl (fun z hz => absurd hz List.not_mem_nil) (by decide) (by decide) (by decide +kernel) (by decide +kernel) (fun xq => ?_)
    refine g_astore [(5, .ref xq), (0, .ref (h 0)), (1, .int r), (2, .int g), (3, .int b), (4, .ref ho)] C dL_recipe_15 (by decide) rfl ?_
    refine g_iconst 1 C dL_recipe_17 (by decide) ?_
    exact g_iret C hr rfl dL_recipe_18 (by decide) (by decide) rfl rfl rfl
set_option maxRecDepth 100000 in
set_option maxHeartbeats 4000000 in
theorem c_w_paid (l : Launch) (D : va_G) (cI cJ : ClassId) (hst : l.stackTraces = false) (h : Nat → Nat) (σ : gS) (np nt no ni : Nat) (hI : iA σ np nt no ni) (ho : Nat) (fo : Nat → Int64) (x : Int32) (K : Nat) (hK : K = th_paid x) : MC l yL_paid wsL_paid 8 132 D (tyIJ cI cJ) [.ref (h 0), .int x, .ref ho] (wO cI cJ h ho σ fo) (wO cI cJ h ho (kS K σ (σ)) (kF K fo (σ.2 11 (cl x)))) none (some (.int (nI (cdI K)))) (nT K) := by
  have hK4 : K = 0 ∨ K = 1 := by
    rw [hK]; unfold th_paid
    repeat' split
    all_goals simp
  refine MC.ofGH (cc := cL_paid) (maxL := 4) (ret := some .int) (hh := [(0, 9, 12, 21)]) [(0, .ref (h 0)), (1, .int x), (2, .ref ho)] (by decide) rfl (Nat.le_of_ble_eq_true rfl) rfl ?_
  intro p e s m args below meth c C hr htab
  rcases hK4 with rfl | rfl
  ·
    refine g_aload_n 2 C rfl dL_paid_0 rfl ?_
    refine g_iconst 0 C dL_paid_1 (by decide) ?_
    refine g_aload_n 0 C rfl dL_paid_2 rfl ?_
    refine g_iload_n 1 C rfl dL_paid_3 rfl ?_
    refine g_callVO (na := 1) (As := [.int x]) (c_paid l D cI cJ hst h σ np nt no ni hI x 0 hK) C gL_paid_X0_paid rfl (by decide +kernel) rfl ⟨Nat.le_of_ble_eq_true rfl, Nat.le_of_ble_eq_true rfl⟩ rfl (Nat.le_of_ble_eq_true rfl) ⟨by decide, by decide⟩ dL_paid_4 ?_
    refine g_i2l C dL_paid_7 ?_
    refine g_last (cA := cJ) (n := 1) (a := ho) (f := fo) 13 1 (wO cI cJ h ho (σ) (kF 0 fo (σ.2 11 (cl x)))) C rfl rfl (vp_in_nI (n := 0) (N := 1) (by decide) (by decide)) rfl dL_paid_8 ?_
    refine g_goto 15 C dL_paid_9 (by decide) ?_
    refine g_iconst 0 C dL_paid_15 (by decide) ?_
    exact g_iret C hr rfl dL_paid_16 (by decide) (by decide) rfl rfl rfl
  ·
    refine g_aload_n 2 C rfl dL_paid_0 rfl ?_
    refine g_iconst 0 C dL_paid_1 (by decide) ?_
    refine g_aload_n 0 C rfl dL_paid_2 rfl ?_
    refine g_iload_n 1 C rfl dL_paid_3 rfl ?_
    refine g_callVOC (na := 1) (As := [.int x]) (E := eIOB) (c_paid l D cI cJ hst h σ np nt no ni hI x 1 hK) C gL_paid_X0_paid rfl (by decide +kernel) rfl ⟨Nat.le_of_ble_eq_true rfl, Nat.le_of_ble_eq_true rfl⟩ rfl (Nat.le_of_ble_eq_true rfl) ⟨by decide, by decide⟩ dL_paid_4 htab [] ⟨0, 9, 12, 21⟩ [] rfl (fun z hz => absurd hz List.not_mem_nil) (by decide) (by decide) (by decide +kernel) (by decide +kernel) (fun xq => ?_)
    refine g_astore_n [(3, .ref xq), (0, .ref (h 0)), (1, .int x), (2, .ref ho)] C dL_paid_12 rfl (by decide) rfl ?_
    refine g_iconst 1 C dL_paid_13 (by decide) ?_
    exact g_iret C hr rfl dL_paid_14 (by decide) (by decide) rfl rfl rfl
