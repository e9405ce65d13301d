/-! The law's calls of the book that catch. -/
def kR : Nat → Int32 → Int32
  | 0, r => r
  | _ + 1, _ => -1003
set_option maxRecDepth 100000 in
set_option maxHeartbeats 4000000 in
theorem c_k_squeeze (l : Launch) (D : va_G) (cI cJ : ClassId) (hst : l.stackTraces = false) (h : Nat → Nat) (σ : gS) (np nt no ni : Nat) (hI : iA σ np nt no ni) (x t z : Int32) (K : Nat) (hK : K = th_squeeze σ nt no x t z) (hK4 : K = 0 ∨ K = 3) : MC l yL_calls wsL_calls 8 162 D (tyIJ cI cJ) [.ref (h 0), .int 0, .int x, .int t, .int z] (wA cI h σ) (wA cI h (kS K σ (s_squeeze σ (cl x) (cl t) z))) none (some (.int (kR K (σ.2 2 (cl t) - z)))) (nT K) := by
  refine MC.ofGH (cc := cL_calls) (maxL := 6) (ret := (some .int)) (hh := [(0, 83, 84, 32)]) [(0, .ref (h 0)), (1, .int 0), (2, .int x), (3, .int t), (4, .int z)] (by decide) rfl (Nat.le_of_ble_eq_true rfl) rfl ?_
  intro p e s m args below meth c C hr htab
  rcases hK4 with rfl | rfl
  ·
    refine g_iload_n 1 C rfl dL_calls_0 rfl ?_
    refine g_if_ne 15 C dL_calls_1 (by decide) (fun q => absurd q (by decide)) (fun _ => ?_)
    refine g_aload_n 0 C rfl dL_calls_4 rfl ?_
    refine g_iload_n 2 C rfl dL_calls_5 rfl ?_
    refine g_iload_n 3 C rfl dL_calls_6 rfl ?_
    refine g_iload 4 C rfl dL_calls_7 ?_
    refine g_callV0 (C0 := RX0) (T := TX0) (N := 17) (ci := 0) (na := 3) (As := [.int x, .int t, .int z]) (c_squeeze l D cI cJ hst h σ np nt no ni hI x t z 0 hK) C gL_calls_X0_squeeze rfl (by decide +kernel) rfl ⟨Nat.le_of_ble_eq_true rfl, Nat.le_of_ble_eq_true rfl⟩ rfl rfl rfl (Nat.le_of_ble_eq_true rfl) ⟨Nat.zero_le _, Nat.zero_le _⟩ rfl dL_calls_9 ?_
    refine g_goto 83 C dL_calls_12 (by decide) ?_
    exact g_iret C hr rfl dL_calls_83 (by decide) (by decide) rfl rfl rfl
  ·
    refine g_iload_n 1 C rfl dL_calls_0 rfl ?_
    refine g_if_ne 15 C dL_calls_1 (by decide) (fun q => absurd q (by decide)) (fun _ => ?_)
    refine g_aload_n 0 C rfl dL_calls_4 rfl ?_
    refine g_iload_n 2 C rfl dL_calls_5 rfl ?_
    refine g_iload_n 3 C rfl dL_calls_6 rfl ?_
    refine g_iload 4 C rfl dL_calls_7 ?_
    refine g_callVOC (na := 3) (As := [.int x, .int t, .int z]) (E := eISE) (c_squeeze l D cI cJ hst h σ np nt no ni hI x t z 3 hK) C gL_calls_X0_squeeze rfl (by decide +kernel) rfl ⟨Nat.le_of_ble_eq_true rfl, Nat.le_of_ble_eq_true rfl⟩ rfl (Nat.le_of_ble_eq_true rfl) ⟨by decide, by decide⟩ dL_calls_9 htab ⟨0, 83, 84, 32⟩ rfl (by decide) (by decide) (by decide +kernel) (by decide +kernel) (fun xq => ?_)
    refine g_astore [(5, .ref xq), (0, .ref (h 0)), (1, .int 0), (2, .int x), (3, .int t), (4, .int z)] C dL_calls_84 (by decide) rfl ?_
    refine g_sipush (-1003) C dL_calls_86 (by decide) ?_
    exact g_iret C hr rfl dL_calls_89 (by decide) (by decide) rfl rfl rfl
set_option maxRecDepth 100000 in
set_option maxHeartbeats 4000000 in
theorem c_k_pour (l : Launch) (D : va_G) (cI cJ : ClassId) (hst : l.stackTraces = false) (h : Nat → Nat) (σ : gS) (np nt no ni : Nat) (hI : iA σ np nt no ni) (x y z : Int32) (K : Nat) (hK : K = th_pour σ nt no x y z) (hK4 : K = 0 ∨ K = 3) : MC l yL_calls wsL_calls 8 162 D (tyIJ cI cJ) [.ref (h 0), .int 1, .int x, .int y, .int z] (wA cI h σ) (wA cI h (kS K σ (sA σ 3 (mvS σ nt (cl x) (cl y) z)))) none (some (.int (kR K (rowS (mvS σ nt (cl x) (cl y) z) (cl y) nt)))) (nT K) := by
  refine MC.ofGH (cc := cL_calls) (maxL := 6) (ret := (some .int)) (hh := [(0, 83, 84, 32)]) [(0, .ref (h 0)), (1, .int 1), (2, .int x), (3, .int y), (4, .int z)] (by decide) rfl (Nat.le_of_ble_eq_true rfl) rfl ?_
  intro p e s m args below meth c C hr htab
  rcases hK4 with rfl | rfl
  ·
    refine g_iload_n 1 C rfl dL_calls_0 rfl ?_
    refine g_if_ne 15 C dL_calls_1 (by decide) (fun _ => ?_) (fun q => absurd q (by decide))
    refine g_iload_n 1 C rfl dL_calls_15 rfl ?_
    refine g_iconst 1 C dL_calls_16 (by decide) ?_
    refine g_icmp_ne 31 C dL_calls_17 (by decide) (fun q => absurd q (by decide)) (fun _ => ?_)
    refine g_aload_n 0 C rfl dL_calls_20 rfl ?_
    refine g_iload_n 2 C rfl dL_calls_21 rfl ?_
    refine g_iload_n 3 C rfl dL_calls_22 rfl ?_
    refine g_iload 4 C rfl dL_calls_23 ?_
    refine g_callV0 (C0 := RX0) (T := TX0) (N := 17) (ci := 0) (na := 3) (As := [.int x, .int y, .int z]) (c_pour l D cI cJ hst h σ np nt no ni hI x y z 0 hK) C gL_calls_X0_pour rfl (by decide +kernel) rfl ⟨Nat.le_of_ble_eq_true rfl, Nat.le_of_ble_eq_true rfl⟩ rfl rfl rfl (Nat.le_of_ble_eq_true rfl) ⟨Nat.zero_le _, Nat.zero_le _⟩ rfl dL_calls_25 ?_
    refine g_goto 83 C dL_calls_28 (by decide) ?_
    exact g_iret C hr rfl dL_calls_83 (by decide) (by decide) rfl rfl rfl
  ·
    refine g_iload_n 1 C rfl dL_calls_0 rfl ?_
    refine g_if_ne 15 C dL_calls_1 (by decide) (fun _ => ?_) (fun q => absurd q (by decide))
    refine g_iload_n 1 C rfl dL_calls_15 rfl ?_
    refine g_iconst 1 C dL_calls_16 (by decide) ?_
    refine g_icmp_ne 31 C dL_calls_17 (by decide) (fun q => absurd q (by decide)) (fun _ => ?_)
    refine g_aload_n 0 C rfl dL_calls_20 rfl ?_
    refine g_iload_n 2 C rfl dL_calls_21 rfl ?_
    refine g_iload_n 3 C rfl dL_calls_22 rfl ?_
    refine g_iload 4 C rfl dL_calls_23 ?_
    refine g_callVOC (na := 3) (As := [.int x, .int y, .int z]) (E := eISE) (c_pour l D cI cJ hst h σ np nt no ni hI x y z 3 hK) C gL_calls_X0_pour rfl (by decide +kernel) rfl ⟨Nat.le_of_ble_eq_true rfl, Nat.le_of_ble_eq_true rfl⟩ rfl (Nat.le_of_ble_eq_true rfl) ⟨by decide, by decide⟩ dL_calls_25 htab ⟨0, 83, 84, 32⟩ rfl (by decide) (by decide) (by decide +kernel) (by decide +kernel) (fun xq => ?_)
    refine g_astore [(5, .ref xq), (0, .ref (h 0)), (1, .int 1), (2, .int x), (3, .int y), (4, .int z)] C dL_calls_84 (by decide) rfl ?_
    refine g_sipush (-1003) C dL_calls_86 (by decide) ?_
    exact g_iret C hr rfl dL_calls_89 (by decide) (by decide) rfl rfl rfl
set_option maxRecDepth 100000 in
set_option maxHeartbeats 4000000 in
theorem c_k_paint (l : Launch) (D : va_G) (cI cJ : ClassId) (hst : l.stackTraces = false) (h : Nat → Nat) (σ : gS) (np nt no ni : Nat) (hI : iA σ np nt no ni) (q x z : Int32) (K : Nat) (hK : K = th_paint σ nt no ni q x z) (hK4 : K = 0 ∨ K = 3) : MC l yL_calls wsL_calls 8 162 D (tyIJ cI cJ) [.ref (h 0), .int 2, .int q, .int x, .int z] (wA cI h σ) (wA cI h (kS K σ (s_paint σ nt (cl q) (cl x) z))) none (some (.int (kR K (nI (cl (σ.2 4 (cl q)) + 1))))) (nT K) := by
  refine MC.ofGH (cc := cL_calls) (maxL := 6) (ret := (some .int)) (hh := [(0, 83, 84, 32)]) [(0, .ref (h 0)), (1, .int 2), (2, .int q), (3, .int x), (4, .int z)] (by decide) rfl (Nat.le_of_ble_eq_true rfl) rfl ?_
  intro p e s m args below meth c C hr htab
  rcases hK4 with rfl | rfl
  ·
    refine g_iload_n 1 C rfl dL_calls_0 rfl ?_
    refine g_if_ne 15 C dL_calls_1 (by decide) (fun _ => ?_) (fun q => absurd q (by decide))
    refine g_iload_n 1 C rfl dL_calls_15 rfl ?_
    refine g_iconst 1 C dL_calls_16 (by decide) ?_
    refine g_icmp_ne 31 C dL_calls_17 (by decide) (fun _ => ?_) (fun q => absurd q (by decide))
    refine g_iload_n 1 C rfl dL_calls_31 rfl ?_
    refine g_iconst 2 C dL_calls_32 (by decide) ?_
    refine g_icmp_ne 47 C dL_calls_33 (by decide) (fun q => absurd q (by decide)) (fun _ => ?_)
    refine g_aload_n 0 C rfl dL_calls_36 rfl ?_
    refine g_iload_n 2 C rfl dL_calls_37 rfl ?_
    refine g_iload_n 3 C rfl dL_calls_38 rfl ?_
    refine g_iload 4 C rfl dL_calls_39 ?_
    refine g_callV0 (C0 := RX0) (T := TX0) (N := 17) (ci := 0) (na := 3) (As := [.int q, .int x, .int z]) (c_paint l D cI cJ hst h σ np nt no ni hI q x z 0 hK) C gL_calls_X0_paint rfl (by decide +kernel) rfl ⟨Nat.le_of_ble_eq_true rfl, Nat.le_of_ble_eq_true rfl⟩ rfl rfl rfl (Nat.le_of_ble_eq_true rfl) ⟨Nat.zero_le _, Nat.zero_le _⟩ rfl dL_calls_41 ?_
    refine g_goto 83 C dL_calls_44 (by decide) ?_
    exact g_iret C hr rfl dL_calls_83 (by decide) (by decide) rfl rfl rfl
  ·
    refine g_iload_n 1 C rfl dL_calls_0 rfl ?_
    refine g_if_ne 15 C dL_calls_1 (by decide) (fun _ => ?_) (fun q => absurd q (by decide))
    refine g_iload_n 1 C rfl dL_calls_15 rfl ?_
    refine g_iconst 1 C dL_calls_16 (by decide) ?_
    refine g_icmp_ne 31 C dL_calls_17 (by decide) (fun _ => ?_) (fun q => absurd q (by decide))
    refine g_iload_n 1 C rfl dL_calls_31 rfl ?_
    refine g_iconst 2 C dL_calls_32 (by decide) ?_
    refine g_icmp_ne 47 C dL_calls_33 (by decide) (fun q => absurd q (by decide)) (fun _ => ?_)
    refine g_aload_n 0 C rfl dL_calls_36 rfl ?_
    refine g_iload_n 2 C rfl dL_calls_37 rfl ?_
    refine g_iload_n 3 C rfl dL_calls_38 rfl ?_
    refine g_iload 4 C rfl dL_calls_39 ?_
    refine g_callVOC (na := 3) (As := [.int q, .int x, .int z]) (E := eISE) (c_paint l D cI cJ hst h σ np nt no ni hI q x z 3 hK) C gL_calls_X0_paint rfl (by decide +kernel) rfl ⟨Nat.le_of_ble_eq_true rfl, Nat.le_of_ble_eq_true rfl⟩ rfl (Nat.le_of_ble_eq_true rfl) ⟨by decide, by decide⟩ dL_calls_41 htab ⟨0, 83, 84, 32⟩ rfl (by decide) (by decide) (by decide +kernel) (by decide +kernel) (fun xq => ?_)
    refine g_astore [(5, .ref xq), (0, .ref (h 0)), (1, .int 2), (2, .int q), (3, .int x), (4, .int z)] C dL_calls_84 (by decide) rfl ?_
    refine g_sipush (-1003) C dL_calls_86 (by decide) ?_
    exact g_iret C hr rfl dL_calls_89 (by decide) (by decide) rfl rfl rfl
set_option maxRecDepth 100000 in
set_option maxHeartbeats 4000000 in
theorem c_k_clean (l : Launch) (D : va_G) (cI cJ : ClassId) (hst : l.stackTraces = false) (h : Nat → Nat) (σ : gS) (np nt no ni : Nat) (hI : iA σ np nt no ni) (q n c0 : Int32) (K : Nat) (hK : K = th_clean σ ni q n) (hK4 : K = 0 ∨ K = 3) : MC l yL_calls wsL_calls 8 162 D (tyIJ cI cJ) [.ref (h 0), .int 3, .int q, .int n, .int c0] (wA cI h σ) (wA cI h (kS K σ (s_clean σ nt (cl q) (cl n)))) none (some (.int (kR K (clS (σ.2 3) nt (cl q) (cl (σ.2 4 (cl q))) (cl n))))) (nT K) := by
  refine MC.ofGH (cc := cL_calls) (maxL := 6) (ret := (some .int)) (hh := [(0, 83, 84, 32)]) [(0, .ref (h 0)), (1, .int 3), (2, .int q), (3, .int n), (4, .int c0)] (by decide) rfl (Nat.le_of_ble_eq_true rfl) rfl ?_
  intro p e s m args below meth c C hr htab
  rcases hK4 with rfl | rfl
  ·
    refine g_iload_n 1 C rfl dL_calls_0 rfl ?_
    refine g_if_ne 15 C dL_calls_1 (by decide) (fun _ => ?_) (fun q => absurd q (by decide))
    refine g_iload_n 1 C rfl dL_calls_15 rfl ?_
    refine g_iconst 1 C dL_calls_16 (by decide) ?_
    refine g_icmp_ne 31 C dL_calls_17 (by decide) (fun _ => ?_) (fun q => absurd q (by decide))
    refine g_iload_n 1 C rfl dL_calls_31 rfl ?_
    refine g_iconst 2 C dL_calls_32 (by decide) ?_
    refine g_icmp_ne 47 C dL_calls_33 (by decide) (fun _ => ?_) (fun q => absurd q (by decide))
    refine g_iload_n 1 C rfl dL_calls_47 rfl ?_
    refine g_iconst 3 C dL_calls_48 (by decide) ?_
    refine g_icmp_ne 61 C dL_calls_49 (by decide) (fun q => absurd q (by decide)) (fun _ => ?_)
    refine g_aload_n 0 C rfl dL_calls_52 rfl ?_
    refine g_iload_n 2 C rfl dL_calls_53 rfl ?_
    refine g_iload_n 3 C rfl dL_calls_54 rfl ?_
    refine g_callV0 (C0 := RX0) (T := TX0) (N := 17) (ci := 0) (na := 2) (As := [.int q, .int n]) (c_clean l D cI cJ hst h σ np nt no ni hI q n 0 hK) C gL_calls_X0_clean rfl (by decide +kernel) rfl ⟨Nat.le_of_ble_eq_true rfl, Nat.le_of_ble_eq_true rfl⟩ rfl rfl rfl (Nat.le_of_ble_eq_true rfl) ⟨Nat.zero_le _, Nat.zero_le _⟩ rfl dL_calls_55 ?_
    refine g_goto 83 C dL_calls_58 (by decide) ?_
    exact g_iret C hr rfl dL_calls_83 (by decide) (by decide) rfl rfl rfl
  ·
    refine g_iload_n 1 C rfl dL_calls_0 rfl ?_
    refine g_if_ne 15 C dL_calls_1 (by decide) (fun _ => ?_) (fun q => absurd q (by decide))
    refine g_iload_n 1 C rfl dL_calls_15 rfl ?_
    refine g_iconst 1 C dL_calls_16 (by decide) ?_
    refine g_icmp_ne 31 C dL_calls_17 (by decide) (fun _ => ?_) (fun q => absurd q (by decide))
    refine g_iload_n 1 C rfl dL_calls_31 rfl ?_
    refine g_iconst 2 C dL_calls_32 (by decide) ?_
    refine g_icmp_ne 47 C dL_calls_33 (by decide) (fun _ => ?_) (fun q => absurd q (by decide))
    refine g_iload_n 1 C rfl dL_calls_47 rfl ?_
    refine g_iconst 3 C dL_calls_48 (by decide) ?_
    refine g_icmp_ne 61 C dL_calls_49 (by decide) (fun q => absurd q (by decide)) (fun _ => ?_)
    refine g_aload_n 0 C rfl dL_calls_52 rfl ?_
    refine g_iload_n 2 C rfl dL_calls_53 rfl ?_
    refine g_iload_n 3 C rfl dL_calls_54 rfl ?_
    refine g_callVOC (na := 2) (As := [.int q, .int n]) (E := eISE) (c_clean l D cI cJ hst h σ np nt no ni hI q n 3 hK) C gL_calls_X0_clean rfl (by decide +kernel) rfl ⟨Nat.le_of_ble_eq_true rfl, Nat.le_of_ble_eq_true rfl⟩ rfl (Nat.le_of_ble_eq_true rfl) ⟨by decide, by decide⟩ dL_calls_55 htab ⟨0, 83, 84, 32⟩ rfl (by decide) (by decide) (by decide +kernel) (by decide +kernel) (fun xq => ?_)
    refine g_astore [(5, .ref xq), (0, .ref (h 0)), (1, .int 3), (2, .int q), (3, .int n), (4, .int c0)] C dL_calls_84 (by decide) rfl ?_
    refine g_sipush (-1003) C dL_calls_86 (by decide) ?_
    exact g_iret C hr rfl dL_calls_89 (by decide) (by decide) rfl rfl rfl
set_option maxRecDepth 100000 in
set_option maxHeartbeats 4000000 in
theorem c_k_lend (l : Launch) (D : va_G) (cI cJ : ClassId) (hst : l.stackTraces = false) (h : Nat → Nat) (σ : gS) (np nt no ni : Nat) (hI : iA σ np nt no ni) (q x d : Int32) (K : Nat) (hK : K = th_lend σ ni q x d) (hK4 : K = 0 ∨ K = 3) : MC l yL_calls wsL_calls 8 162 D (tyIJ cI cJ) [.ref (h 0), .int 4, .int q, .int x, .int d] (wA cI h σ) (wA cI h (kS K σ (s_lend σ np nt ni (cl q) (cl x) d))) none (some (.int (kR K (valA σ np nt ni (cl q) / 100 + 1)))) (nT K) := by
  refine MC.ofGH (cc := cL_calls) (maxL := 6) (ret := (some .int)) (hh := [(0, 83, 84, 32)]) [(0, .ref (h 0)), (1, .int 4), (2, .int q), (3, .int x), (4, .int d)] (by decide) rfl (Nat.le_of_ble_eq_true rfl) rfl ?_
  intro p e s m args below meth c C hr htab
  rcases hK4 with rfl | rfl
  ·
    refine g_iload_n 1 C rfl dL_calls_0 rfl ?_
    refine g_if_ne 15 C dL_calls_1 (by decide) (fun _ => ?_) (fun q => absurd q (by decide))
    refine g_iload_n 1 C rfl dL_calls_15 rfl ?_
    refine g_iconst 1 C dL_calls_16 (by decide) ?_
    refine g_icmp_ne 31 C dL_calls_17 (by decide) (fun _ => ?_) (fun q => absurd q (by decide))
    refine g_iload_n 1 C rfl dL_calls_31 rfl ?_
    refine g_iconst 2 C dL_calls_32 (by decide) ?_
    refine g_icmp_ne 47 C dL_calls_33 (by decide) (fun _ => ?_) (fun q => absurd q (by decide))
    refine g_iload_n 1 C rfl dL_calls_47 rfl ?_
    refine g_iconst 3 C dL_calls_48 (by decide) ?_
    refine g_icmp_ne 61 C dL_calls_49 (by decide) (fun _ => ?_) (fun q => absurd q (by decide))
    refine g_iload_n 1 C rfl dL_calls_61 rfl ?_
    refine g_iconst 4 C dL_calls_62 (by decide) ?_
    refine g_icmp_ne 77 C dL_calls_63 (by decide) (fun q => absurd q (by decide)) (fun _ => ?_)
    refine g_aload_n 0 C rfl dL_calls_66 rfl ?_
    refine g_iload_n 2 C rfl dL_calls_67 rfl ?_
    refine g_iload_n 3 C rfl dL_calls_68 rfl ?_
    refine g_iload 4 C rfl dL_calls_69 ?_
    refine g_callV0 (C0 := RX0) (T := TX0) (N := 17) (ci := 0) (na := 3) (As := [.int q, .int x, .int d]) (c_lend l D cI cJ hst h σ np nt no ni hI q x d 0 hK) C gL_calls_X0_lend rfl (by decide +kernel) rfl ⟨Nat.le_of_ble_eq_true rfl, Nat.le_of_ble_eq_true rfl⟩ rfl rfl rfl (Nat.le_of_ble_eq_true rfl) ⟨Nat.zero_le _, Nat.zero_le _⟩ rfl dL_calls_71 ?_
    refine g_goto 83 C dL_calls_74 (by decide) ?_
    exact g_iret C hr rfl dL_calls_83 (by decide) (by decide) rfl rfl rfl
  ·
    refine g_iload_n 1 C rfl dL_calls_0 rfl ?_
    refine g_if_ne 15 C dL_calls_1 (by decide) (fun _ => ?_) (fun q => absurd q (by decide))
    refine g_iload_n 1 C rfl dL_calls_15 rfl ?_
    refine g_iconst 1 C dL_calls_16 (by decide) ?_
    refine g_icmp_ne 31 C dL_calls_17 (by decide) (fun _ => ?_) (fun q => absurd q (by decide))
    refine g_iload_n 1 C rfl dL_calls_31 rfl ?_
    refine g_iconst 2 C dL_calls_32 (by decide) ?_
    refine g_icmp_ne 47 C dL_calls_33 (by decide) (fun _ => ?_) (fun q => absurd q (by decide))
    refine g_iload_n 1 C rfl dL_calls_47 rfl ?_
    refine g_iconst 3 C dL_calls_48 (by decide) ?_
    refine g_icmp_ne 61 C dL_calls_49 (by decide) (fun _ => ?_) (fun q => absurd q (by decide))
    refine g_iload_n 1 C rfl dL_calls_61 rfl ?_
    refine g_iconst 4 C dL_calls_62 (by decide) ?_
    refine g_icmp_ne 77 C dL_calls_63 (by decide) (fun q => absurd q (by decide)) (fun _ => ?_)
    refine g_aload_n 0 C rfl dL_calls_66 rfl ?_
    refine g_iload_n 2 C rfl dL_calls_67 rfl ?_
    refine g_iload_n 3 C rfl dL_calls_68 rfl ?_
    refine g_iload 4 C rfl dL_calls_69 ?_
    refine g_callVOC (na := 3) (As := [.int q, .int x, .int d]) (E := eISE) (c_lend l D cI cJ hst h σ np nt no ni hI q x d 3 hK) C gL_calls_X0_lend rfl (by decide +kernel) rfl ⟨Nat.le_of_ble_eq_true rfl, Nat.le_of_ble_eq_true rfl⟩ rfl (Nat.le_of_ble_eq_true rfl) ⟨by decide, by decide⟩ dL_calls_71 htab ⟨0, 83, 84, 32⟩ rfl (by decide) (by decide) (by decide +kernel) (by decide +kernel) (fun xq => ?_)
    refine g_astore [(5, .ref xq), (0, .ref (h 0)), (1, .int 4), (2, .int q), (3, .int x), (4, .int d)] C dL_calls_84 (by decide) rfl ?_
    refine g_sipush (-1003) C dL_calls_86 (by decide) ?_
    exact g_iret C hr rfl dL_calls_89 (by decide) (by decide) rfl rfl rfl
set_option maxRecDepth 100000 in
set_option maxHeartbeats 4000000 in
theorem c_k_sell (l : Launch) (D : va_G) (cI cJ : ClassId) (hst : l.stackTraces = false) (h : Nat → Nat) (σ : gS) (np nt no ni : Nat) (hI : iA σ np nt no ni) (q x c0 : Int32) (K : Nat) (hK : K = th_sell σ ni q x) (hK4 : K = 0 ∨ K = 3) : MC l yL_calls wsL_calls 8 162 D (tyIJ cI cJ) [.ref (h 0), .int 5, .int q, .int x, .int c0] (wA cI h σ) (wA cI h (kS K σ (s_sell σ (cl q) x))) none (some (.int (kR K (valA (s_sell σ (cl q) x) np nt ni (cl q))))) (nT K) := by
  refine MC.ofGH (cc := cL_calls) (maxL := 6) (ret := (some .int)) (hh := [(0, 83, 84, 32)]) [(0, .ref (h 0)), (1, .int 5), (2, .int q), (3, .int x), (4, .int c0)] (by decide) rfl (Nat.le_of_ble_eq_true rfl) rfl ?_
  intro p e s m args below meth c C hr htab
  rcases hK4 with rfl | rfl
  ·
    refine g_iload_n 1 C rfl dL_calls_0 rfl ?_
    refine g_if_ne 15 C dL_calls_1 (by decide) (fun _ => ?_) (fun q => absurd q (by decide))
    refine g_iload_n 1 C rfl dL_calls_15 rfl ?_
    refine g_iconst 1 C dL_calls_16 (by decide) ?_
    refine g_icmp_ne 31 C dL_calls_17 (by decide) (fun _ => ?_) (fun q => absurd q (by decide))
    refine g_iload_n 1 C rfl dL_calls_31 rfl ?_
    refine g_iconst 2 C dL_calls_32 (by decide) ?_
    refine g_icmp_ne 47 C dL_calls_33 (by decide) (fun _ => ?_) (fun q => absurd q (by decide))
    refine g_iload_n 1 C rfl dL_calls_47 rfl ?_
    refine g_iconst 3 C dL_calls_48 (by decide) ?_
    refine g_icmp_ne 61 C dL_calls_49 (by decide) (fun _ => ?_) (fun q => absurd q (by decide))
    refine g_iload_n 1 C rfl dL_calls_61 rfl ?_
    refine g_iconst 4 C dL_calls_62 (by decide) ?_
    refine g_icmp_ne 77 C dL_calls_63 (by decide) (fun _ => ?_) (fun q => absurd q (by decide))
    refine g_aload_n 0 C rfl dL_calls_77 rfl ?_
    refine g_iload_n 2 C rfl dL_calls_78 rfl ?_
    refine g_iload_n 3 C rfl dL_calls_79 rfl ?_
    refine g_callV0 (C0 := RX0) (T := TX0) (N := 17) (ci := 0) (na := 2) (As := [.int q, .int x]) (c_sell l D cI cJ hst h σ np nt no ni hI q x 0 hK) C gL_calls_X0_sell rfl (by decide +kernel) rfl ⟨Nat.le_of_ble_eq_true rfl, Nat.le_of_ble_eq_true rfl⟩ rfl rfl rfl (Nat.le_of_ble_eq_true rfl) ⟨Nat.zero_le _, Nat.zero_le _⟩ rfl dL_calls_80 ?_
    exact g_iret C hr rfl dL_calls_83 (by decide) (by decide) rfl rfl rfl
  ·
    refine g_iload_n 1 C rfl dL_calls_0 rfl ?_
    refine g_if_ne 15 C dL_calls_1 (by decide) (fun _ => ?_) (fun q => absurd q (by decide))
    refine g_iload_n 1 C rfl dL_calls_15 rfl ?_
    refine g_iconst 1 C dL_calls_16 (by decide) ?_
    refine g_icmp_ne 31 C dL_calls_17 (by decide) (fun _ => ?_) (fun q => absurd q (by decide))
    refine g_iload_n 1 C rfl dL_calls_31 rfl ?_
    refine g_iconst 2 C dL_calls_32 (by decide) ?_
    refine g_icmp_ne 47 C dL_calls_33 (by decide) (fun _ => ?_) (fun q => absurd q (by decide))
    refine g_iload_n 1 C rfl dL_calls_47 rfl ?_
    refine g_iconst 3 C dL_calls_48 (by decide) ?_
    refine g_icmp_ne 61 C dL_calls_49 (by decide) (fun _ => ?_) (fun q => absurd q (by decide))
    refine g_iload_n 1 C rfl dL_calls_61 rfl ?_
    refine g_iconst 4 C dL_calls_62 (by decide) ?_
    refine g_icmp_ne 77 C dL_calls_63 (by decide) (fun _ => ?_) (fun q => absurd q (by decide))
    refine g_aload_n 0 C rfl dL_calls_77 rfl ?_
    refine g_iload_n 2 C rfl dL_calls_78 rfl ?_
    refine g_iload_n 3 C rfl dL_calls_79 rfl ?_
    refine g_callVOC (na := 2) (As := [.int q, .int x]) (E := eISE) (c_sell l D cI cJ hst h σ np nt no ni hI q x 3 hK) C gL_calls_X0_sell rfl (by decide +kernel) rfl ⟨Nat.le_of_ble_eq_true rfl, Nat.le_of_ble_eq_true rfl⟩ rfl (Nat.le_of_ble_eq_true rfl) ⟨by decide, by decide⟩ dL_calls_80 htab ⟨0, 83, 84, 32⟩ rfl (by decide) (by decide) (by decide +kernel) (by decide +kernel) (fun xq => ?_)
    refine g_astore [(5, .ref xq), (0, .ref (h 0)), (1, .int 5), (2, .int q), (3, .int x), (4, .int c0)] C dL_calls_84 (by decide) rfl ?_
    refine g_sipush (-1003) C dL_calls_86 (by decide) ?_
    exact g_iret C hr rfl dL_calls_89 (by decide) (by decide) rfl rfl rfl
