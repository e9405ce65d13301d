/-! The book, its small methods. -/
set_option maxRecDepth 100000 in
set_option maxHeartbeats 4000000 in
theorem c_potRow (l : Launch) (D : va_G) (cI cJ : ClassId) (w : va_W) (x : Int32) : MC l yX0_potRow wsX0_potRow 0 0 D (tyIJ cI cJ) [.int (x)] w w none (some (.int x)) 0 := by
  refine MC.ofG (cc := cX0_potRow) (maxL := 1) (ret := (some .int)) [(0, .int (x))] (by decide) rfl (Nat.le_of_ble_eq_true rfl) rfl ?_
  intro p e s m args below meth c C hr hout
  refine g_iload_n 0 C rfl dX0_potRow_0 rfl ?_
  exact g_iret C hr rfl dX0_potRow_1 (Nat.zero_le _) (Nat.zero_le _) rfl rfl rfl
set_option maxRecDepth 100000 in
set_option maxHeartbeats 4000000 in
theorem c_place (l : Launch) (D : va_G) (cI cJ : ClassId) (w : va_W) (r t : Nat) : MC l yX0_place wsX0_place 0 0 D (tyIJ cI cJ) [.int (nI (r)), .int (nI (t))] w w none (some (.int (nI (r * 12 + t)))) 0 := by
  refine MC.ofG (cc := cX0_place) (maxL := 2) (ret := (some .int)) [(0, .int (nI (r))), (1, .int (nI (t)))] (by decide) rfl (Nat.le_of_ble_eq_true rfl) rfl ?_
  intro p e s m args below meth c C hr hout
  refine g_iload_n 0 C rfl dX0_place_0 rfl ?_
  refine g_bipush 12 C dX0_place_1 (by decide) ?_
  refine g_imulN r 12 C dX0_place_3 ?_
  refine g_iload_n 1 C rfl dX0_place_4 rfl ?_
  refine g_iaddN (r * 12) t C dX0_place_5 ?_
  exact g_iret C hr rfl dX0_place_6 (Nat.zero_le _) (Nat.zero_le _) rfl rfl rfl
set_option maxRecDepth 100000 in
set_option maxHeartbeats 4000000 in
theorem c_layerRow (l : Launch) (D : va_G) (cI cJ : ClassId) (w : va_W) (r t : Nat) : MC l yX0_layerRow wsX0_layerRow 0 0 D (tyIJ cI cJ) [.int (nI (r)), .int (nI (t))] w w none (some (.int (nI (10 + r * 12 + t)))) 0 := by
  refine MC.ofG (cc := cX0_layerRow) (maxL := 2) (ret := (some .int)) [(0, .int (nI (r))), (1, .int (nI (t)))] (by decide) rfl (Nat.le_of_ble_eq_true rfl) rfl ?_
  intro p e s m args below meth c C hr hout
  refine g_bipush 10 C dX0_layerRow_0 (by decide) ?_
  refine g_iload_n 0 C rfl dX0_layerRow_2 rfl ?_
  refine g_bipush 12 C dX0_layerRow_3 (by decide) ?_
  refine g_imulN r 12 C dX0_layerRow_5 ?_
  refine g_iaddN 10 (r * 12) C dX0_layerRow_6 ?_
  refine g_iload_n 1 C rfl dX0_layerRow_7 rfl ?_
  refine g_iaddN (10 + (r * 12)) t C dX0_layerRow_8 ?_
  exact g_iret C hr rfl dX0_layerRow_9 (Nat.zero_le _) (Nat.zero_le _) rfl rfl rfl
set_option maxRecDepth 100000 in
set_option maxHeartbeats 4000000 in
theorem c_square (l : Launch) (D : va_G) (cI cJ : ClassId) (w : va_W) (x : Int32) : MC l yX0_square wsX0_square 0 0 D (tyIJ cI cJ) [.int (x)] w w none (some (.int (x * x))) 0 := by
  refine MC.ofG (cc := cX0_square) (maxL := 1) (ret := (some .int)) [(0, .int (x))] (by decide) rfl (Nat.le_of_ble_eq_true rfl) rfl ?_
  intro p e s m args below meth c C hr hout
  refine g_iload_n 0 C rfl dX0_square_0 rfl ?_
  refine g_iload_n 0 C rfl dX0_square_1 rfl ?_
  refine g_imul C dX0_square_2 ?_
  exact g_iret C hr rfl dX0_square_3 (Nat.zero_le _) (Nat.zero_le _) rfl rfl rfl
set_option maxRecDepth 100000 in
set_option maxHeartbeats 4000000 in
theorem c_checkNumber (l : Launch) (D : va_G) (cI cJ : ClassId) (hst : l.stackTraces = false) (w : va_W) (x c : Int32) (K : Nat) (hK : K = if bad x c then 1 else 0) : MC l yX0_checkNumber wsX0_checkNumber 6 90 D (tyIJ cI cJ) [.int (x), .int (c)] w w (exT K) none (nT K) := by
  refine MC.ofG (cc := cX0_checkNumber) (maxL := 2) (ret := none) [(0, .int (x)), (1, .int (c))] (by decide) rfl (Nat.le_of_ble_eq_true rfl) rfl ?_
  intro p e s m args below meth c C hr hout
  refine g_iload_n 0 C rfl dX0_checkNumber_0 rfl ?_
  refine g_if_lt 9 C dX0_checkNumber_1 (by decide) (fun c_1_1 => ?_) (fun c_1_1 => ?_)
  ·
    obtain rfl : K = 1 := hK.trans (if_pos (Or.inl c_1_1))
    exact g_throw (cls := eIOB) (text := "there is no such number") C hst rfl (by decide +kernel) (by decide +kernel) (by decide +kernel) (by decide +kernel) (by decide +kernel) (by decide +kernel) (by decide +kernel) hout dX0_checkNumber_9 dX0_checkNumber_12 dX0_checkNumber_13 dX0_checkNumber_15 dX0_checkNumber_18 (by decide) (by decide) (by decide) (by decide) (by decide) (by decide) rfl
  ·
    refine g_iload_n 0 C rfl dX0_checkNumber_4 rfl ?_
    refine g_iload_n 1 C rfl dX0_checkNumber_5 rfl ?_
    refine g_icmp_lt 19 C dX0_checkNumber_6 (by decide) (fun c_6_2 => ?_) (fun c_6_2 => ?_)
    ·
      obtain rfl : K = 0 := hK.trans (if_neg (fun q => q.elim c_1_1 (fun r => r c_6_2)))
      exact g_vret C hr dX0_checkNumber_19 (Nat.zero_le _) (Nat.zero_le _) rfl rfl rfl
    ·
      obtain rfl : K = 1 := hK.trans (if_pos (Or.inr c_6_2))
      exact g_throw (cls := eIOB) (text := "there is no such number") C hst rfl (by decide +kernel) (by decide +kernel) (by decide +kernel) (by decide +kernel) (by decide +kernel) (by decide +kernel) (by decide +kernel) hout dX0_checkNumber_9 dX0_checkNumber_12 dX0_checkNumber_13 dX0_checkNumber_15 dX0_checkNumber_18 (by decide) (by decide) (by decide) (by decide) (by decide) (by decide) rfl
set_option maxRecDepth 100000 in
set_option maxHeartbeats 4000000 in
theorem c_checkRange (l : Launch) (D : va_G) (cI cJ : ClassId) (hst : l.stackTraces = false) (w : va_W) (x lo hi : Int32) (K : Nat) (hK : K = if out x lo hi then 2 else 0) : MC l yX0_checkRange wsX0_checkRange 6 90 D (tyIJ cI cJ) [.int (x), .int (lo), .int (hi)] w w (exT K) none (nT K) := by
  refine MC.ofG (cc := cX0_checkRange) (maxL := 3) (ret := none) [(0, .int (x)), (1, .int (lo)), (2, .int (hi))] (by decide) rfl (Nat.le_of_ble_eq_true rfl) rfl ?_
  intro p e s m args below meth c C hr hout
  refine g_iload_n 0 C rfl dX0_checkRange_0 rfl ?_
  refine g_iload_n 1 C rfl dX0_checkRange_1 rfl ?_
  refine g_icmp_lt 10 C dX0_checkRange_2 (by decide) (fun c_2_1 => ?_) (fun c_2_1 => ?_)
  ·
    obtain rfl : K = 2 := hK.trans (if_pos (Or.inl c_2_1))
    exact g_throw (cls := eIAE) (text := "out of range") C hst rfl (by decide +kernel) (by decide +kernel) (by decide +kernel) (by decide +kernel) (by decide +kernel) (by decide +kernel) (by decide +kernel) hout dX0_checkRange_10 dX0_checkRange_13 dX0_checkRange_14 dX0_checkRange_16 dX0_checkRange_19 (by decide) (by decide) (by decide) (by decide) (by decide) (by decide) rfl
  ·
    refine g_iload_n 0 C rfl dX0_checkRange_5 rfl ?_
    refine g_iload_n 2 C rfl dX0_checkRange_6 rfl ?_
    refine g_icmp_le 20 C dX0_checkRange_7 (by decide) (fun c_7_2 => ?_) (fun c_7_2 => ?_)
    ·
      obtain rfl : K = 0 := hK.trans (if_neg (fun q => q.elim c_2_1 (fun r => r c_7_2)))
      exact g_vret C hr dX0_checkRange_20 (Nat.zero_le _) (Nat.zero_le _) rfl rfl rfl
    ·
      obtain rfl : K = 2 := hK.trans (if_pos (Or.inr c_7_2))
      exact g_throw (cls := eIAE) (text := "out of range") C hst rfl (by decide +kernel) (by decide +kernel) (by decide +kernel) (by decide +kernel) (by decide +kernel) (by decide +kernel) (by decide +kernel) hout dX0_checkRange_10 dX0_checkRange_13 dX0_checkRange_14 dX0_checkRange_16 dX0_checkRange_19 (by decide) (by decide) (by decide) (by decide) (by decide) (by decide) rfl
