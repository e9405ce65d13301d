/-! The law's calls, one by one. -/
theorem nT_le : ∀ K, nT K ≤ 1
  | 0 => Nat.zero_le 1
  | _ + 1 => Nat.le_refl 1
set_option maxRecDepth 100000 in
set_option maxHeartbeats 4000000 in
theorem lc_pigment {p : Program} {l : Launch} {e : Env} {s : State} {m : MethodId} {args : Array Value} {below : List Frame} {meth : Method} {c : Code} {D : va_G} {cI cJ : ClassId} {A : Nat → Prop} {k j : Nat} {Q : State → Prop} {bs L n : Nat} {xs : Nat → Int32} {h gm : Nat → Nat} {ho : Nat} {σ τ : gS} {fo : Nat → Int64} {np nt no ni : Nat} (hst : l.stackTraces = false) (C : gC p s m args meth c cL_law 7 RL wsL_law D (tyIJ cI cJ) A) (hX : va_X bs L xs s s.heap) (hbl : bs < s.heap.size) (hbA : ¬ A bs) (hn : 4 * n + 3 < L) (hL : L ≤ 2048) (hk : k + 1 ≤ 1071 ∧ j + 6 ≤ 11110) (hR : RR σ τ np nt no ni) (KK : ∀ (σ' τ' : gS) (fo' : Nat → Int64), RE σ' τ' → G p l e room_1 s m args below meth c D A 7 (k + 1) (j + 6) Q (wW cI cJ h ho gm σ' fo' τ') [(0, .ref bs), (1, .ref (h 0)), (2, .ref (gm 0)), (3, .ref ho), (4, .int (nI (4 * n)))] 1552 []) : G p l e room_1 s m args below meth c D A 7 k j Q (wW cI cJ h ho gm σ fo τ) [(0, .ref bs), (1, .ref (h 0)), (2, .ref (gm 0)), (3, .ref ho), (4, .int (nI (4 * n)))] 136 [] := by
  have hop := op_pigment hR (xs (4 * n + 1)) (xs (4 * n + 2)) (xs (4 * n + 3))
  obtain ⟨K, hK⟩ : ∃ K, K = th_pigment np (xs (4 * n + 1)) (xs (4 * n + 2)) (xs (4 * n + 3)) := ⟨_, rfl⟩
  obtain ⟨Km, hKm⟩ : ∃ K, K = tm_pigment np (xs (4 * n + 1)) (xs (4 * n + 2)) (xs (4 * n + 3)) := ⟨_, rfl⟩
  rw [← hK, ← hKm] at hop
  obtain ⟨hRE, hth⟩ := hop.next hR
  have hnK : nT K ≤ 1 := nT_le K
  have hKm3 : Km ≤ 3 := by
    rw [hKm]; unfold tm_pigment
    repeat' split
    all_goals simp
  have heq : nI Km = nI (cdA K) := by
    rcases hop with ⟨h1, h2, -⟩ | ⟨h1, h2, h3⟩
    · rw [h1, h2]; rfl
    · rw [h3]
  refine g_aload_n 1 C rfl dL_law_136 rfl ?_
  refine g_aload_n 0 C rfl dL_law_137 rfl ?_
  refine g_iload 4 C rfl dL_law_138 ?_
  refine g_iconst 1 C dL_law_140 (by decide) ?_
  refine g_iaddN (4 * n) 1 C dL_law_141 ?_
  refine g_sldN (4 * n + 1) C hX hbl hbA (by omega) (by omega) dL_law_142 ?_
  refine g_aload_n 0 C rfl dL_law_143 rfl ?_
  refine g_iload 4 C rfl dL_law_144 ?_
  refine g_iconst 2 C dL_law_146 (by decide) ?_
  refine g_iaddN (4 * n) 2 C dL_law_147 ?_
  refine g_sldN (4 * n + 2) C hX hbl hbA (by omega) (by omega) dL_law_148 ?_
  refine g_aload_n 0 C rfl dL_law_149 rfl ?_
  refine g_iload 4 C rfl dL_law_150 ?_
  refine g_iconst 3 C dL_law_152 (by decide) ?_
  refine g_iaddN (4 * n) 3 C dL_law_153 ?_
  refine g_sldN (4 * n + 3) C hX hbl hbA (by omega) (by omega) dL_law_154 ?_
  refine g_aload_n 3 C rfl dL_law_155 rfl ?_
  refine g_callSH (na := 5) (av := [.ref (h 0), .int (xs (4 * n + 1)), .int (xs (4 * n + 2)), .int (xs (4 * n + 3)), .ref ho]) (c_w_pigment l D cI cJ hst h σ np nt no ni hR.1 ho fo (xs (4 * n + 1)) (xs (4 * n + 2)) (xs (4 * n + 3)) K hK) C gL_law_L_pigment rfl (by decide +kernel) rfl ⟨Nat.le_of_ble_eq_true rfl, Nat.le_of_ble_eq_true rfl⟩ rfl (Nat.le_of_ble_eq_true rfl) ⟨by show k + nT K ≤ 1071; omega, by show j + 6 * nT K ≤ 11110; omega⟩ dL_law_156 ?_
  refine g_istore [(5, .int (nI (cdA K))), (0, .ref bs), (1, .ref (h 0)), (2, .ref (gm 0)), (3, .ref ho), (4, .int (nI (4 * n)))] C dL_law_159 (by decide) rfl ?_
  refine g_aload_n 3 C rfl dL_law_161 rfl ?_
  refine g_aload_n 1 C rfl dL_law_162 rfl ?_
  refine g_iload 5 C rfl dL_law_163 ?_
  refine g_iconst 1 C dL_law_165 (by decide) ?_
  refine g_iaddN (4 * n) 1 C dL_law_166 ?_
  refine g_sldN (4 * n + 1) C hX hbl hbA (by omega) (by omega) dL_law_167 ?_
  refine g_aload_n 1 C rfl dL_law_168 rfl ?_
  refine g_iload 5 C rfl dL_law_169 ?_
  refine g_iconst 2 C dL_law_171 (by decide) ?_
  refine g_iaddN (4 * n) 2 C dL_law_172 ?_
  refine g_sldN (4 * n + 2) C hX hbl hbA (by omega) (by omega) dL_law_173 ?_
  refine g_aload_n 1 C rfl dL_law_174 rfl ?_
  refine g_iload 5 C rfl dL_law_175 ?_
  refine g_iconst 3 C dL_law_177 (by decide) ?_
  refine g_iaddN (4 * n) 3 C dL_law_178 ?_
  refine g_sldN (4 * n + 3) C hX hbl hbA (by omega) (by omega) dL_law_179 ?_
  refine g_callM (na := 3) (As := [.int (xs (4 * n + 1)), .int (xs (4 * n + 2)), .int (xs (4 * n + 3))]) (c_m_pigment l D cI cJ gm τ np nt no ni hR.2.1 (xs (4 * n + 1)) (xs (4 * n + 2)) (xs (4 * n + 3)) Km hKm) C gL_law_X1_pigment rfl (by decide +kernel) rfl ⟨Nat.le_of_ble_eq_true rfl, Nat.le_of_ble_eq_true rfl⟩ rfl (Nat.le_of_ble_eq_true rfl) ⟨by show k + nT K ≤ 1071; omega, by show j + 6 * nT K ≤ 11110; omega⟩ dL_law_180 ?_
  refine g_istore [(6, .int (mR Km (nI np))), (5, .int (nI (cdA K))), (0, .ref bs), (1, .ref (h 0)), (2, .ref (gm 0)), (3, .ref ho), (4, .int (nI (4 * n)))] C dL_law_183 (by decide) rfl ?_
  refine g_aload_n 4 C rfl dL_law_185 rfl ?_
  refine g_callM (na := 0) (As := []) (c_m_thrown l D cI cJ gm _) C gL_law_X1_thrown rfl (by decide +kernel) rfl ⟨Nat.le_of_ble_eq_true rfl, Nat.le_of_ble_eq_true rfl⟩ rfl (Nat.le_of_ble_eq_true rfl) ⟨by show k + nT K ≤ 1071; omega, by show j + 6 * nT K ≤ 11110; omega⟩ dL_law_186 ?_
  refine g_is (nI Km) hth ?_
  refine g_iload 1 C rfl dL_law_189 ?_
  refine g_icmp_eq 196 C dL_law_191 (by decide) (fun _ => ?_) (fun zz => absurd heq zz)
  refine g_iload 1 C rfl dL_law_196 ?_
  rcases hop with ⟨h1, h2, h3, h4, h5⟩ | ⟨h1, h2, h3⟩
  · subst h1; subst h2
    refine g_if_ne 213 C dL_law_198 (by decide) (fun zz => absurd rfl zz) (fun _ => ?_)
    refine g_aload_n 5 C rfl dL_law_201 rfl ?_
    refine g_iconst 0 C dL_law_202 (by decide) ?_
    refine g_lald (cA := cJ) (n := 1) (a := ho) (f := kF 0 fo (nI np)) 13 1 C rfl rfl (vp_in_nI (n := 0) (N := 1) (by decide) (by decide)) dL_law_203 ?_
    refine g_iload 0 C rfl dL_law_204 ?_
    refine g_i2l C dL_law_206 ?_
    refine g_lcmp C dL_law_207 ?_
    refine g_is 0 (by show lg_cmp (nI np : Int32).toInt64 (nI np : Int32).toInt64 = 0; rw [h3]; exact lg_same _) ?_
    refine g_if_eq 213 C dL_law_208 (by decide) (fun _ => ?_) (fun zz => absurd rfl zz)
    refine g_goto 1552 C dL_law_213 (by decide) ?_
    refine g_lv [2, 3, 4, 5, 6] [(0, .ref bs), (1, .ref (h 0)), (2, .ref (gm 0)), (3, .ref ho), (4, .int (nI (4 * n)))] rfl ?_
    refine g_widen (k' := k + 1) (j' := j + 6) (by omega) (by omega) ?_
    exact KK _ _ _ hRE
  · refine g_if_ne 213 C dL_law_198 (by decide) (fun _ => ?_) (fun zz => absurd (heq.trans zz) (nI_ne0 (by omega) (by omega)))
    refine g_goto 1552 C dL_law_213 (by decide) ?_
    refine g_lv [2, 3, 4, 5, 6] [(0, .ref bs), (1, .ref (h 0)), (2, .ref (gm 0)), (3, .ref ho), (4, .int (nI (4 * n)))] rfl ?_
    refine g_widen (k' := k + 1) (j' := j + 6) (by omega) (by omega) ?_
    exact KK _ _ _ hRE
set_option maxRecDepth 100000 in
set_option maxHeartbeats 4000000 in
theorem lc_tube {p : Program} {l : Launch} {e : Env} {s : State} {m : MethodId} {args : Array Value} {below : List Frame} {meth : Method} {c : Code} {D : va_G} {cI cJ : ClassId} {A : Nat → Prop} {k j : Nat} {Q : State → Prop} {bs L n : Nat} {xs : Nat → Int32} {h gm : Nat → Nat} {ho : Nat} {σ τ : gS} {fo : Nat → Int64} {np nt no ni : Nat} (hst : l.stackTraces = false) (C : gC p s m args meth c cL_law 7 RL wsL_law D (tyIJ cI cJ) A) (hX : va_X bs L xs s s.heap) (hbl : bs < s.heap.size) (hbA : ¬ A bs) (hn : 4 * n + 3 < L) (hL : L ≤ 2048) (hk : k + 1 ≤ 1071 ∧ j + 6 ≤ 11110) (hR : RR σ τ np nt no ni) (KK : ∀ (σ' τ' : gS) (fo' : Nat → Int64), RE σ' τ' → G p l e room_1 s m args below meth c D A 7 (k + 1) (j + 6) Q (wW cI cJ h ho gm σ' fo' τ') [(0, .ref bs), (1, .ref (h 0)), (2, .ref (gm 0)), (3, .ref ho), (4, .int (nI (4 * n)))] 1552 []) : G p l e room_1 s m args below meth c D A 7 k j Q (wW cI cJ h ho gm σ fo τ) [(0, .ref bs), (1, .ref (h 0)), (2, .ref (gm 0)), (3, .ref ho), (4, .int (nI (4 * n)))] 216 [] := by
  have hop := op_tube hR (xs (4 * n + 1)) (xs (4 * n + 2))
  obtain ⟨K, hK⟩ : ∃ K, K = th_tube np nt (xs (4 * n + 1)) (xs (4 * n + 2)) := ⟨_, rfl⟩
  obtain ⟨Km, hKm⟩ : ∃ K, K = tm_tube np nt (xs (4 * n + 1)) (xs (4 * n + 2)) := ⟨_, rfl⟩
  rw [← hK, ← hKm] at hop
  obtain ⟨hRE, hth⟩ := hop.next hR
  have hnK : nT K ≤ 1 := nT_le K
  have hKm3 : Km ≤ 3 := by
    rw [hKm]; unfold tm_tube
    repeat' split
    all_goals simp
  have heq : nI Km = nI (cdI K) := by
    rcases hop with ⟨h1, h2, -⟩ | ⟨h1, h2, h3⟩
    · rw [h1, h2]; rfl
    · rw [h3]
  refine g_aload_n 1 C rfl dL_law_216 rfl ?_
  refine g_aload_n 0 C rfl dL_law_217 rfl ?_
  refine g_iload 4 C rfl dL_law_218 ?_
  refine g_iconst 1 C dL_law_220 (by decide) ?_
  refine g_iaddN (4 * n) 1 C dL_law_221 ?_
  refine g_sldN (4 * n + 1) C hX hbl hbA (by omega) (by omega) dL_law_222 ?_
  refine g_aload_n 0 C rfl dL_law_223 rfl ?_
  refine g_iload 4 C rfl dL_law_224 ?_
  refine g_iconst 2 C dL_law_226 (by decide) ?_
  refine g_iaddN (4 * n) 2 C dL_law_227 ?_
  refine g_sldN (4 * n + 2) C hX hbl hbA (by omega) (by omega) dL_law_228 ?_
  refine g_aload_n 3 C rfl dL_law_229 rfl ?_
  refine g_callSH (na := 4) (av := [.ref (h 0), .int (xs (4 * n + 1)), .int (xs (4 * n + 2)), .ref ho]) (c_w_tube l D cI cJ hst h σ np nt no ni hR.1 ho fo (xs (4 * n + 1)) (xs (4 * n + 2)) K hK) C gL_law_L_tube rfl (by decide +kernel) rfl ⟨Nat.le_of_ble_eq_true rfl, Nat.le_of_ble_eq_true rfl⟩ rfl (Nat.le_of_ble_eq_true rfl) ⟨by show k + nT K ≤ 1071; omega, by show j + 6 * nT K ≤ 11110; omega⟩ dL_law_230 ?_
  refine g_istore [(5, .int (nI (cdI K))), (0, .ref bs), (1, .ref (h 0)), (2, .ref (gm 0)), (3, .ref ho), (4, .int (nI (4 * n)))] C dL_law_233 (by decide) rfl ?_
  refine g_aload_n 3 C rfl dL_law_235 rfl ?_
  refine g_aload_n 1 C rfl dL_law_236 rfl ?_
  refine g_iload 5 C rfl dL_law_237 ?_
  refine g_iconst 1 C dL_law_239 (by decide) ?_
  refine g_iaddN (4 * n) 1 C dL_law_240 ?_
  refine g_sldN (4 * n + 1) C hX hbl hbA (by omega) (by omega) dL_law_241 ?_
  refine g_aload_n 1 C rfl dL_law_242 rfl ?_
  refine g_iload 5 C rfl dL_law_243 ?_
  refine g_iconst 2 C dL_law_245 (by decide) ?_
  refine g_iaddN (4 * n) 2 C dL_law_246 ?_
  refine g_sldN (4 * n + 2) C hX hbl hbA (by omega) (by omega) dL_law_247 ?_
  refine g_callM (na := 2) (As := [.int (xs (4 * n + 1)), .int (xs (4 * n + 2))]) (c_m_tube l D cI cJ gm τ np nt no ni hR.2.1 (xs (4 * n + 1)) (xs (4 * n + 2)) Km hKm) C gL_law_X1_tube rfl (by decide +kernel) rfl ⟨Nat.le_of_ble_eq_true rfl, Nat.le_of_ble_eq_true rfl⟩ rfl (Nat.le_of_ble_eq_true rfl) ⟨by show k + nT K ≤ 1071; omega, by show j + 6 * nT K ≤ 11110; omega⟩ dL_law_248 ?_
  refine g_istore [(6, .int (mR Km (nI nt))), (5, .int (nI (cdI K))), (0, .ref bs), (1, .ref (h 0)), (2, .ref (gm 0)), (3, .ref ho), (4, .int (nI (4 * n)))] C dL_law_251 (by decide) rfl ?_
  refine g_aload_n 4 C rfl dL_law_253 rfl ?_
  refine g_callM (na := 0) (As := []) (c_m_thrown l D cI cJ gm _) C gL_law_X1_thrown rfl (by decide +kernel) rfl ⟨Nat.le_of_ble_eq_true rfl, Nat.le_of_ble_eq_true rfl⟩ rfl (Nat.le_of_ble_eq_true rfl) ⟨by show k + nT K ≤ 1071; omega, by show j + 6 * nT K ≤ 11110; omega⟩ dL_law_254 ?_
  refine g_is (nI Km) hth ?_
  refine g_iload 1 C rfl dL_law_257 ?_
  refine g_icmp_eq 264 C dL_law_259 (by decide) (fun _ => ?_) (fun zz => absurd heq zz)
  refine g_iload 1 C rfl dL_law_264 ?_
  rcases hop with ⟨h1, h2, h3, h4, h5⟩ | ⟨h1, h2, h3⟩
  · subst h1; subst h2
    refine g_if_ne 281 C dL_law_266 (by decide) (fun zz => absurd rfl zz) (fun _ => ?_)
    refine g_aload_n 5 C rfl dL_law_269 rfl ?_
    refine g_iconst 0 C dL_law_270 (by decide) ?_
    refine g_lald (cA := cJ) (n := 1) (a := ho) (f := kF 0 fo (nI nt)) 13 1 C rfl rfl (vp_in_nI (n := 0) (N := 1) (by decide) (by decide)) dL_law_271 ?_
    refine g_iload 0 C rfl dL_law_272 ?_
    refine g_i2l C dL_law_274 ?_
    refine g_lcmp C dL_law_275 ?_
    refine g_is 0 (by show lg_cmp (nI nt : Int32).toInt64 (nI nt : Int32).toInt64 = 0; rw [h3]; exact lg_same _) ?_
    refine g_if_eq 281 C dL_law_276 (by decide) (fun _ => ?_) (fun zz => absurd rfl zz)
    refine g_goto 1552 C dL_law_281 (by decide) ?_
    refine g_lv [2, 3, 4, 5, 6] [(0, .ref bs), (1, .ref (h 0)), (2, .ref (gm 0)), (3, .ref ho), (4, .int (nI (4 * n)))] rfl ?_
    refine g_widen (k' := k + 1) (j' := j + 6) (by omega) (by omega) ?_
    exact KK _ _ _ hRE
  · refine g_if_ne 281 C dL_law_266 (by decide) (fun _ => ?_) (fun zz => absurd (heq.trans zz) (nI_ne0 (by omega) (by omega)))
    refine g_goto 1552 C dL_law_281 (by decide) ?_
    refine g_lv [2, 3, 4, 5, 6] [(0, .ref bs), (1, .ref (h 0)), (2, .ref (gm 0)), (3, .ref ho), (4, .int (nI (4 * n)))] rfl ?_
    refine g_widen (k' := k + 1) (j' := j + 6) (by omega) (by omega) ?_
    exact KK _ _ _ hRE
set_option maxRecDepth 100000 in
set_option maxHeartbeats 4000000 in
theorem lc_pot {p : Program} {l : Launch} {e : Env} {s : State} {m : MethodId} {args : Array Value} {below : List Frame} {meth : Method} {c : Code} {D : va_G} {cI cJ : ClassId} {A : Nat → Prop} {k j : Nat} {Q : State → Prop} {bs L n : Nat} {xs : Nat → Int32} {h gm : Nat → Nat} {ho : Nat} {σ τ : gS} {fo : Nat → Int64} {np nt no ni : Nat} (hst : l.stackTraces = false) (C : gC p s m args meth c cL_law 7 RL wsL_law D (tyIJ cI cJ) A) (hX : va_X bs L xs s s.heap) (hbl : bs < s.heap.size) (hbA : ¬ A bs) (hn : 4 * n + 3 < L) (hL : L ≤ 2048) (hk : k + 1 ≤ 1071 ∧ j + 6 ≤ 11110) (hR : RR σ τ np nt no ni) (KK : ∀ (σ' τ' : gS) (fo' : Nat → Int64), RE σ' τ' → G p l e room_1 s m args below meth c D A 7 (k + 1) (j + 6) Q (wW cI cJ h ho gm σ' fo' τ') [(0, .ref bs), (1, .ref (h 0)), (2, .ref (gm 0)), (3, .ref ho), (4, .int (nI (4 * n)))] 1552 []) : G p l e room_1 s m args below meth c D A 7 k j Q (wW cI cJ h ho gm σ fo τ) [(0, .ref bs), (1, .ref (h 0)), (2, .ref (gm 0)), (3, .ref ho), (4, .int (nI (4 * n)))] 284 [] := by
  have hop := op_pot hR 
  obtain ⟨K, hK⟩ : ∃ K, K = th_pot no := ⟨_, rfl⟩
  obtain ⟨Km, hKm⟩ : ∃ K, K = tm_pot no := ⟨_, rfl⟩
  rw [← hK, ← hKm] at hop
  obtain ⟨hRE, hth⟩ := hop.next hR
  have hnK : nT K ≤ 1 := nT_le K
  have hKm3 : Km ≤ 3 := by
    rw [hKm]; unfold tm_pot
    repeat' split
    all_goals simp
  have heq : nI Km = nI (cdS K) := by
    rcases hop with ⟨h1, h2, -⟩ | ⟨h1, h2, h3⟩
    · rw [h1, h2]; rfl
    · rw [h3]
  refine g_aload_n 1 C rfl dL_law_284 rfl ?_
  refine g_aload_n 3 C rfl dL_law_285 rfl ?_
  refine g_callSH (na := 2) (av := [.ref (h 0), .ref ho]) (c_w_pot l D cI cJ hst h σ np nt no ni hR.1 ho fo  K hK) C gL_law_L_pot rfl (by decide +kernel) rfl ⟨Nat.le_of_ble_eq_true rfl, Nat.le_of_ble_eq_true rfl⟩ rfl (Nat.le_of_ble_eq_true rfl) ⟨by show k + nT K ≤ 1071; omega, by show j + 6 * nT K ≤ 11110; omega⟩ dL_law_286 ?_
  refine g_istore [(5, .int (nI (cdS K))), (0, .ref bs), (1, .ref (h 0)), (2, .ref (gm 0)), (3, .ref ho), (4, .int (nI (4 * n)))] C dL_law_289 (by decide) rfl ?_
  refine g_aload_n 3 C rfl dL_law_291 rfl ?_
  refine g_callM (na := 0) (As := []) (c_m_pot l D cI cJ gm τ np nt no ni hR.2.1  Km hKm) C gL_law_X1_pot rfl (by decide +kernel) rfl ⟨Nat.le_of_ble_eq_true rfl, Nat.le_of_ble_eq_true rfl⟩ rfl (Nat.le_of_ble_eq_true rfl) ⟨by show k + nT K ≤ 1071; omega, by show j + 6 * nT K ≤ 11110; omega⟩ dL_law_292 ?_
  refine g_istore [(6, .int (mR Km (nI no))), (5, .int (nI (cdS K))), (0, .ref bs), (1, .ref (h 0)), (2, .ref (gm 0)), (3, .ref ho), (4, .int (nI (4 * n)))] C dL_law_295 (by decide) rfl ?_
  refine g_aload_n 4 C rfl dL_law_297 rfl ?_
  refine g_callM (na := 0) (As := []) (c_m_thrown l D cI cJ gm _) C gL_law_X1_thrown rfl (by decide +kernel) rfl ⟨Nat.le_of_ble_eq_true rfl, Nat.le_of_ble_eq_true rfl⟩ rfl (Nat.le_of_ble_eq_true rfl) ⟨by show k + nT K ≤ 1071; omega, by show j + 6 * nT K ≤ 11110; omega⟩ dL_law_298 ?_
  refine g_is (nI Km) hth ?_
  refine g_iload 1 C rfl dL_law_301 ?_
  refine g_icmp_eq 308 C dL_law_303 (by decide) (fun _ => ?_) (fun zz => absurd heq zz)
  refine g_iload 1 C rfl dL_law_308 ?_
  rcases hop with ⟨h1, h2, h3, h4, h5⟩ | ⟨h1, h2, h3⟩
  · subst h1; subst h2
    refine g_if_ne 325 C dL_law_310 (by decide) (fun zz => absurd rfl zz) (fun _ => ?_)
    refine g_aload_n 5 C rfl dL_law_313 rfl ?_
    refine g_iconst 0 C dL_law_314 (by decide) ?_
    refine g_lald (cA := cJ) (n := 1) (a := ho) (f := kF 0 fo (nI no)) 13 1 C rfl rfl (vp_in_nI (n := 0) (N := 1) (by decide) (by decide)) dL_law_315 ?_
    refine g_iload 0 C rfl dL_law_316 ?_
    refine g_i2l C dL_law_318 ?_
    refine g_lcmp C dL_law_319 ?_
    refine g_is 0 (by show lg_cmp (nI no : Int32).toInt64 (nI no : Int32).toInt64 = 0; rw [h3]; exact lg_same _) ?_
    refine g_if_eq 325 C dL_law_320 (by decide) (fun _ => ?_) (fun zz => absurd rfl zz)
    refine g_goto 1552 C dL_law_325 (by decide) ?_
    refine g_lv [2, 3, 4, 5, 6] [(0, .ref bs), (1, .ref (h 0)), (2, .ref (gm 0)), (3, .ref ho), (4, .int (nI (4 * n)))] rfl ?_
    refine g_widen (k' := k + 1) (j' := j + 6) (by omega) (by omega) ?_
    exact KK _ _ _ hRE
  · refine g_if_ne 325 C dL_law_310 (by decide) (fun _ => ?_) (fun zz => absurd (heq.trans zz) (nI_ne0 (by omega) (by omega)))
    refine g_goto 1552 C dL_law_325 (by decide) ?_
    refine g_lv [2, 3, 4, 5, 6] [(0, .ref bs), (1, .ref (h 0)), (2, .ref (gm 0)), (3, .ref ho), (4, .int (nI (4 * n)))] rfl ?_
    refine g_widen (k' := k + 1) (j' := j + 6) (by omega) (by omega) ?_
    exact KK _ _ _ hRE
set_option maxRecDepth 100000 in
set_option maxHeartbeats 4000000 in
theorem lc_squeeze {p : Program} {l : Launch} {e : Env} {s : State} {m : MethodId} {args : Array Value} {below : List Frame} {meth : Method} {c : Code} {D : va_G} {cI cJ : ClassId} {A : Nat → Prop} {k j : Nat} {Q : State → Prop} {bs L n : Nat} {xs : Nat → Int32} {h gm : Nat → Nat} {ho : Nat} {σ τ : gS} {fo : Nat → Int64} {np nt no ni : Nat} (hst : l.stackTraces = false) (C : gC p s m args meth c cL_law 7 RL wsL_law D (tyIJ cI cJ) A) (hX : va_X bs L xs s s.heap) (hbl : bs < s.heap.size) (hbA : ¬ A bs) (hn : 4 * n + 3 < L) (hL : L ≤ 2048) (hk : k + 1 ≤ 1071 ∧ j + 6 ≤ 11110) (hR : RR σ τ np nt no ni) (KK : ∀ (σ' τ' : gS) (fo' : Nat → Int64), RE σ' τ' → G p l e room_1 s m args below meth c D A 7 (k + 1) (j + 6) Q (wW cI cJ h ho gm σ' fo' τ') [(0, .ref bs), (1, .ref (h 0)), (2, .ref (gm 0)), (3, .ref ho), (4, .int (nI (4 * n)))] 1552 []) : G p l e room_1 s m args below meth c D A 7 k j Q (wW cI cJ h ho gm σ fo τ) [(0, .ref bs), (1, .ref (h 0)), (2, .ref (gm 0)), (3, .ref ho), (4, .int (nI (4 * n)))] 328 [] := by
  have hop := op_squeeze hR (xs (4 * n + 1)) (xs (4 * n + 2)) (xs (4 * n + 3))
  obtain ⟨K, hK⟩ : ∃ K, K = th_squeeze σ nt no (xs (4 * n + 1)) (xs (4 * n + 2)) (xs (4 * n + 3)) := ⟨_, rfl⟩
  obtain ⟨Km, hKm⟩ : ∃ K, K = tm_squeeze τ nt no (xs (4 * n + 1)) (xs (4 * n + 2)) (xs (4 * n + 3)) := ⟨_, rfl⟩
  rw [← hK, ← hKm] at hop
  obtain ⟨hRE, hth⟩ := hop.next hR
  have hnK : nT K ≤ 1 := nT_le K
  have hKm3 : Km ≤ 3 := by
    rw [hKm]; unfold tm_squeeze
    repeat' split
    all_goals simp
  have heq : nI Km = nI (cdI K) := by
    rcases hop with ⟨h1, h2, -⟩ | ⟨h1, h2, h3⟩
    · rw [h1, h2]; rfl
    · rw [h3]
  refine g_aload_n 1 C rfl dL_law_328 rfl ?_
  refine g_aload_n 0 C rfl dL_law_329 rfl ?_
  refine g_iload 4 C rfl dL_law_330 ?_
  refine g_iconst 1 C dL_law_332 (by decide) ?_
  refine g_iaddN (4 * n) 1 C dL_law_333 ?_
  refine g_sldN (4 * n + 1) C hX hbl hbA (by omega) (by omega) dL_law_334 ?_
  refine g_aload_n 0 C rfl dL_law_335 rfl ?_
  refine g_iload 4 C rfl dL_law_336 ?_
  refine g_iconst 2 C dL_law_338 (by decide) ?_
  refine g_iaddN (4 * n) 2 C dL_law_339 ?_
  refine g_sldN (4 * n + 2) C hX hbl hbA (by omega) (by omega) dL_law_340 ?_
  refine g_aload_n 0 C rfl dL_law_341 rfl ?_
  refine g_iload 4 C rfl dL_law_342 ?_
  refine g_iconst 3 C dL_law_344 (by decide) ?_
  refine g_iaddN (4 * n) 3 C dL_law_345 ?_
  refine g_sldN (4 * n + 3) C hX hbl hbA (by omega) (by omega) dL_law_346 ?_
  refine g_aload_n 3 C rfl dL_law_347 rfl ?_
  refine g_callSH (na := 5) (av := [.ref (h 0), .int (xs (4 * n + 1)), .int (xs (4 * n + 2)), .int (xs (4 * n + 3)), .ref ho]) (c_w_squeeze l D cI cJ hst h σ np nt no ni hR.1 ho fo (xs (4 * n + 1)) (xs (4 * n + 2)) (xs (4 * n + 3)) K hK) C gL_law_L_squeeze rfl (by decide +kernel) rfl ⟨Nat.le_of_ble_eq_true rfl, Nat.le_of_ble_eq_true rfl⟩ rfl (Nat.le_of_ble_eq_true rfl) ⟨by show k + nT K ≤ 1071; omega, by show j + 6 * nT K ≤ 11110; omega⟩ dL_law_348 ?_
  refine g_istore [(5, .int (nI (cdI K))), (0, .ref bs), (1, .ref (h 0)), (2, .ref (gm 0)), (3, .ref ho), (4, .int (nI (4 * n)))] C dL_law_351 (by decide) rfl ?_
  refine g_aload_n 3 C rfl dL_law_353 rfl ?_
  refine g_aload_n 1 C rfl dL_law_354 rfl ?_
  refine g_iload 5 C rfl dL_law_355 ?_
  refine g_iconst 1 C dL_law_357 (by decide) ?_
  refine g_iaddN (4 * n) 1 C dL_law_358 ?_
  refine g_sldN (4 * n + 1) C hX hbl hbA (by omega) (by omega) dL_law_359 ?_
  refine g_aload_n 1 C rfl dL_law_360 rfl ?_
  refine g_iload 5 C rfl dL_law_361 ?_
  refine g_iconst 2 C dL_law_363 (by decide) ?_
  refine g_iaddN (4 * n) 2 C dL_law_364 ?_
  refine g_sldN (4 * n + 2) C hX hbl hbA (by omega) (by omega) dL_law_365 ?_
  refine g_aload_n 1 C rfl dL_law_366 rfl ?_
  refine g_iload 5 C rfl dL_law_367 ?_
  refine g_iconst 3 C dL_law_369 (by decide) ?_
  refine g_iaddN (4 * n) 3 C dL_law_370 ?_
  refine g_sldN (4 * n + 3) C hX hbl hbA (by omega) (by omega) dL_law_371 ?_
  refine g_callM (na := 3) (As := [.int (xs (4 * n + 1)), .int (xs (4 * n + 2)), .int (xs (4 * n + 3))]) (c_m_squeeze l D cI cJ gm τ np nt no ni hR.2.1 (xs (4 * n + 1)) (xs (4 * n + 2)) (xs (4 * n + 3)) Km hKm) C gL_law_X1_squeeze rfl (by decide +kernel) rfl ⟨Nat.le_of_ble_eq_true rfl, Nat.le_of_ble_eq_true rfl⟩ rfl (Nat.le_of_ble_eq_true rfl) ⟨by show k + nT K ≤ 1071; omega, by show j + 6 * nT K ≤ 11110; omega⟩ dL_law_372 ?_
  refine g_istore [(6, .int (mR Km (τ.2 2 (cl (xs (4 * n + 2))) - (xs (4 * n + 3))))), (5, .int (nI (cdI K))), (0, .ref bs), (1, .ref (h 0)), (2, .ref (gm 0)), (3, .ref ho), (4, .int (nI (4 * n)))] C dL_law_375 (by decide) rfl ?_
  refine g_aload_n 4 C rfl dL_law_377 rfl ?_
  refine g_callM (na := 0) (As := []) (c_m_thrown l D cI cJ gm _) C gL_law_X1_thrown rfl (by decide +kernel) rfl ⟨Nat.le_of_ble_eq_true rfl, Nat.le_of_ble_eq_true rfl⟩ rfl (Nat.le_of_ble_eq_true rfl) ⟨by show k + nT K ≤ 1071; omega, by show j + 6 * nT K ≤ 11110; omega⟩ dL_law_378 ?_
  refine g_is (nI Km) hth ?_
  refine g_iload 1 C rfl dL_law_381 ?_
  refine g_icmp_eq 388 C dL_law_383 (by decide) (fun _ => ?_) (fun zz => absurd heq zz)
  refine g_iload 1 C rfl dL_law_388 ?_
  rcases hop with ⟨h1, h2, h3, h4, h5⟩ | ⟨h1, h2, h3⟩
  · subst h1; subst h2
    refine g_if_ne 405 C dL_law_390 (by decide) (fun zz => absurd rfl zz) (fun _ => ?_)
    refine g_aload_n 5 C rfl dL_law_393 rfl ?_
    refine g_iconst 0 C dL_law_394 (by decide) ?_
    refine g_lald (cA := cJ) (n := 1) (a := ho) (f := kF 0 fo (σ.2 2 (cl (xs (4 * n + 2))) - (xs (4 * n + 3)))) 13 1 C rfl rfl (vp_in_nI (n := 0) (N := 1) (by decide) (by decide)) dL_law_395 ?_
    refine g_iload 0 C rfl dL_law_396 ?_
    refine g_i2l C dL_law_398 ?_
    refine g_lcmp C dL_law_399 ?_
    refine g_is 0 (by show lg_cmp (σ.2 2 (cl (xs (4 * n + 2))) - (xs (4 * n + 3)) : Int32).toInt64 (τ.2 2 (cl (xs (4 * n + 2))) - (xs (4 * n + 3)) : Int32).toInt64 = 0; rw [h3]; exact lg_same _) ?_
    refine g_if_eq 405 C dL_law_400 (by decide) (fun _ => ?_) (fun zz => absurd rfl zz)
    refine g_goto 1552 C dL_law_405 (by decide) ?_
    refine g_lv [2, 3, 4, 5, 6] [(0, .ref bs), (1, .ref (h 0)), (2, .ref (gm 0)), (3, .ref ho), (4, .int (nI (4 * n)))] rfl ?_
    refine g_widen (k' := k + 1) (j' := j + 6) (by omega) (by omega) ?_
    exact KK _ _ _ hRE
  · refine g_if_ne 405 C dL_law_390 (by decide) (fun _ => ?_) (fun zz => absurd (heq.trans zz) (nI_ne0 (by omega) (by omega)))
    refine g_goto 1552 C dL_law_405 (by decide) ?_
    refine g_lv [2, 3, 4, 5, 6] [(0, .ref bs), (1, .ref (h 0)), (2, .ref (gm 0)), (3, .ref ho), (4, .int (nI (4 * n)))] rfl ?_
    refine g_widen (k' := k + 1) (j' := j + 6) (by omega) (by omega) ?_
    exact KK _ _ _ hRE
set_option maxRecDepth 100000 in
set_option maxHeartbeats 4000000 in
theorem lc_pour {p : Program} {l : Launch} {e : Env} {s : State} {m : MethodId} {args : Array Value} {below : List Frame} {meth : Method} {c : Code} {D : va_G} {cI cJ : ClassId} {A : Nat → Prop} {k j : Nat} {Q : State → Prop} {bs L n : Nat} {xs : Nat → Int32} {h gm : Nat → Nat} {ho : Nat} {σ τ : gS} {fo : Nat → Int64} {np nt no ni : Nat} (hst : l.stackTraces = false) (C : gC p s m args meth c cL_law 7 RL wsL_law D (tyIJ cI cJ) A) (hX : va_X bs L xs s s.heap) (hbl : bs < s.heap.size) (hbA : ¬ A bs) (hn : 4 * n + 3 < L) (hL : L ≤ 2048) (hk : k + 1 ≤ 1071 ∧ j + 6 ≤ 11110) (hR : RR σ τ np nt no ni) (KK : ∀ (σ' τ' : gS) (fo' : Nat → Int64), RE σ' τ' → G p l e room_1 s m args below meth c D A 7 (k + 1) (j + 6) Q (wW cI cJ h ho gm σ' fo' τ') [(0, .ref bs), (1, .ref (h 0)), (2, .ref (gm 0)), (3, .ref ho), (4, .int (nI (4 * n)))] 1552 []) : G p l e room_1 s m args below meth c D A 7 k j Q (wW cI cJ h ho gm σ fo τ) [(0, .ref bs), (1, .ref (h 0)), (2, .ref (gm 0)), (3, .ref ho), (4, .int (nI (4 * n)))] 408 [] := by
  have hop := op_pour hR (xs (4 * n + 1)) (xs (4 * n + 2)) (xs (4 * n + 3))
  obtain ⟨K, hK⟩ : ∃ K, K = th_pour σ nt no (xs (4 * n + 1)) (xs (4 * n + 2)) (xs (4 * n + 3)) := ⟨_, rfl⟩
  obtain ⟨Km, hKm⟩ : ∃ K, K = tm_pour τ no (xs (4 * n + 1)) (xs (4 * n + 2)) (xs (4 * n + 3)) := ⟨_, rfl⟩
  rw [← hK, ← hKm] at hop
  obtain ⟨hRE, hth⟩ := hop.next hR
  have hnK : nT K ≤ 1 := nT_le K
  have hKm3 : Km ≤ 3 := by
    rw [hKm]; unfold tm_pour
    repeat' split
    all_goals simp
  have heq : nI Km = nI (cdI K) := by
    rcases hop with ⟨h1, h2, -⟩ | ⟨h1, h2, h3⟩
    · rw [h1, h2]; rfl
    · rw [h3]
  refine g_aload_n 1 C rfl dL_law_408 rfl ?_
  refine g_aload_n 0 C rfl dL_law_409 rfl ?_
  refine g_iload 4 C rfl dL_law_410 ?_
  refine g_iconst 1 C dL_law_412 (by decide) ?_
  refine g_iaddN (4 * n) 1 C dL_law_413 ?_
  refine g_sldN (4 * n + 1) C hX hbl hbA (by omega) (by omega) dL_law_414 ?_
  refine g_aload_n 0 C rfl dL_law_415 rfl ?_
  refine g_iload 4 C rfl dL_law_416 ?_
  refine g_iconst 2 C dL_law_418 (by decide) ?_
  refine g_iaddN (4 * n) 2 C dL_law_419 ?_
  refine g_sldN (4 * n + 2) C hX hbl hbA (by omega) (by omega) dL_law_420 ?_
  refine g_aload_n 0 C rfl dL_law_421 rfl ?_
  refine g_iload 4 C rfl dL_law_422 ?_
  refine g_iconst 3 C dL_law_424 (by decide) ?_
  refine g_iaddN (4 * n) 3 C dL_law_425 ?_
  refine g_sldN (4 * n + 3) C hX hbl hbA (by omega) (by omega) dL_law_426 ?_
  refine g_aload_n 3 C rfl dL_law_427 rfl ?_
  refine g_callSH (na := 5) (av := [.ref (h 0), .int (xs (4 * n + 1)), .int (xs (4 * n + 2)), .int (xs (4 * n + 3)), .ref ho]) (c_w_pour l D cI cJ hst h σ np nt no ni hR.1 ho fo (xs (4 * n + 1)) (xs (4 * n + 2)) (xs (4 * n + 3)) K hK) C gL_law_L_pour rfl (by decide +kernel) rfl ⟨Nat.le_of_ble_eq_true rfl, Nat.le_of_ble_eq_true rfl⟩ rfl (Nat.le_of_ble_eq_true rfl) ⟨by show k + nT K ≤ 1071; omega, by show j + 6 * nT K ≤ 11110; omega⟩ dL_law_428 ?_
  refine g_istore [(5, .int (nI (cdI K))), (0, .ref bs), (1, .ref (h 0)), (2, .ref (gm 0)), (3, .ref ho), (4, .int (nI (4 * n)))] C dL_law_431 (by decide) rfl ?_
  refine g_aload_n 3 C rfl dL_law_433 rfl ?_
  refine g_aload_n 1 C rfl dL_law_434 rfl ?_
  refine g_iload 5 C rfl dL_law_435 ?_
  refine g_iconst 1 C dL_law_437 (by decide) ?_
  refine g_iaddN (4 * n) 1 C dL_law_438 ?_
  refine g_sldN (4 * n + 1) C hX hbl hbA (by omega) (by omega) dL_law_439 ?_
  refine g_aload_n 1 C rfl dL_law_440 rfl ?_
  refine g_iload 5 C rfl dL_law_441 ?_
  refine g_iconst 2 C dL_law_443 (by decide) ?_
  refine g_iaddN (4 * n) 2 C dL_law_444 ?_
  refine g_sldN (4 * n + 2) C hX hbl hbA (by omega) (by omega) dL_law_445 ?_
  refine g_aload_n 1 C rfl dL_law_446 rfl ?_
  refine g_iload 5 C rfl dL_law_447 ?_
  refine g_iconst 3 C dL_law_449 (by decide) ?_
  refine g_iaddN (4 * n) 3 C dL_law_450 ?_
  refine g_sldN (4 * n + 3) C hX hbl hbA (by omega) (by omega) dL_law_451 ?_
  refine g_callM (na := 3) (As := [.int (xs (4 * n + 1)), .int (xs (4 * n + 2)), .int (xs (4 * n + 3))]) (c_m_pour l D cI cJ gm τ np nt no ni hR.2.1 (xs (4 * n + 1)) (xs (4 * n + 2)) (xs (4 * n + 3)) Km hKm) C gL_law_X1_pour rfl (by decide +kernel) rfl ⟨Nat.le_of_ble_eq_true rfl, Nat.le_of_ble_eq_true rfl⟩ rfl (Nat.le_of_ble_eq_true rfl) ⟨by show k + nT K ≤ 1071; omega, by show j + 6 * nT K ≤ 11110; omega⟩ dL_law_452 ?_
  refine g_istore [(6, .int (mR Km (potS (addF (subF (τ.2 4) (flwF τ (cl (xs (4 * n + 1))) (xs (4 * n + 3))) (12 * cl (xs (4 * n + 1))) 12) (flwF τ (cl (xs (4 * n + 1))) (xs (4 * n + 3))) (12 * cl (xs (4 * n + 2))) 12) (cl (xs (4 * n + 2))) 12))), (5, .int (nI (cdI K))), (0, .ref bs), (1, .ref (h 0)), (2, .ref (gm 0)), (3, .ref ho), (4, .int (nI (4 * n)))] C dL_law_455 (by decide) rfl ?_
  refine g_aload_n 4 C rfl dL_law_457 rfl ?_
  refine g_callM (na := 0) (As := []) (c_m_thrown l D cI cJ gm _) C gL_law_X1_thrown rfl (by decide +kernel) rfl ⟨Nat.le_of_ble_eq_true rfl, Nat.le_of_ble_eq_true rfl⟩ rfl (Nat.le_of_ble_eq_true rfl) ⟨by show k + nT K ≤ 1071; omega, by show j + 6 * nT K ≤ 11110; omega⟩ dL_law_458 ?_
  refine g_is (nI Km) hth ?_
  refine g_iload 1 C rfl dL_law_461 ?_
  refine g_icmp_eq 468 C dL_law_463 (by decide) (fun _ => ?_) (fun zz => absurd heq zz)
  refine g_iload 1 C rfl dL_law_468 ?_
  rcases hop with ⟨h1, h2, h3, h4, h5⟩ | ⟨h1, h2, h3⟩
  · subst h1; subst h2
    refine g_if_ne 485 C dL_law_470 (by decide) (fun zz => absurd rfl zz) (fun _ => ?_)
    refine g_aload_n 5 C rfl dL_law_473 rfl ?_
    refine g_iconst 0 C dL_law_474 (by decide) ?_
    refine g_lald (cA := cJ) (n := 1) (a := ho) (f := kF 0 fo (rowS (mvS σ nt (cl (xs (4 * n + 1))) (cl (xs (4 * n + 2))) (xs (4 * n + 3))) (cl (xs (4 * n + 2))) nt)) 13 1 C rfl rfl (vp_in_nI (n := 0) (N := 1) (by decide) (by decide)) dL_law_475 ?_
    refine g_iload 0 C rfl dL_law_476 ?_
    refine g_i2l C dL_law_478 ?_
    refine g_lcmp C dL_law_479 ?_
    refine g_is 0 (by show lg_cmp (rowS (mvS σ nt (cl (xs (4 * n + 1))) (cl (xs (4 * n + 2))) (xs (4 * n + 3))) (cl (xs (4 * n + 2))) nt : Int32).toInt64 (potS (addF (subF (τ.2 4) (flwF τ (cl (xs (4 * n + 1))) (xs (4 * n + 3))) (12 * cl (xs (4 * n + 1))) 12) (flwF τ (cl (xs (4 * n + 1))) (xs (4 * n + 3))) (12 * cl (xs (4 * n + 2))) 12) (cl (xs (4 * n + 2))) 12 : Int32).toInt64 = 0; rw [h3]; exact lg_same _) ?_
    refine g_if_eq 485 C dL_law_480 (by decide) (fun _ => ?_) (fun zz => absurd rfl zz)
    refine g_goto 1552 C dL_law_485 (by decide) ?_
    refine g_lv [2, 3, 4, 5, 6] [(0, .ref bs), (1, .ref (h 0)), (2, .ref (gm 0)), (3, .ref ho), (4, .int (nI (4 * n)))] rfl ?_
    refine g_widen (k' := k + 1) (j' := j + 6) (by omega) (by omega) ?_
    exact KK _ _ _ hRE
  · refine g_if_ne 485 C dL_law_470 (by decide) (fun _ => ?_) (fun zz => absurd (heq.trans zz) (nI_ne0 (by omega) (by omega)))
    refine g_goto 1552 C dL_law_485 (by decide) ?_
    refine g_lv [2, 3, 4, 5, 6] [(0, .ref bs), (1, .ref (h 0)), (2, .ref (gm 0)), (3, .ref ho), (4, .int (nI (4 * n)))] rfl ?_
    refine g_widen (k' := k + 1) (j' := j + 6) (by omega) (by omega) ?_
    exact KK _ _ _ hRE
set_option maxRecDepth 100000 in
set_option maxHeartbeats 4000000 in
theorem lc_scrape {p : Program} {l : Launch} {e : Env} {s : State} {m : MethodId} {args : Array Value} {below : List Frame} {meth : Method} {c : Code} {D : va_G} {cI cJ : ClassId} {A : Nat → Prop} {k j : Nat} {Q : State → Prop} {bs L n : Nat} {xs : Nat → Int32} {h gm : Nat → Nat} {ho : Nat} {σ τ : gS} {fo : Nat → Int64} {np nt no ni : Nat} (hst : l.stackTraces = false) (C : gC p s m args meth c cL_law 7 RL wsL_law D (tyIJ cI cJ) A) (hX : va_X bs L xs s s.heap) (hbl : bs < s.heap.size) (hbA : ¬ A bs) (hn : 4 * n + 3 < L) (hL : L ≤ 2048) (hk : k + 1 ≤ 1071 ∧ j + 6 ≤ 11110) (hR : RR σ τ np nt no ni) (KK : ∀ (σ' τ' : gS) (fo' : Nat → Int64), RE σ' τ' → G p l e room_1 s m args below meth c D A 7 (k + 1) (j + 6) Q (wW cI cJ h ho gm σ' fo' τ') [(0, .ref bs), (1, .ref (h 0)), (2, .ref (gm 0)), (3, .ref ho), (4, .int (nI (4 * n)))] 1552 []) : G p l e room_1 s m args below meth c D A 7 k j Q (wW cI cJ h ho gm σ fo τ) [(0, .ref bs), (1, .ref (h 0)), (2, .ref (gm 0)), (3, .ref ho), (4, .int (nI (4 * n)))] 488 [] := by
  have hop := op_scrape hR (xs (4 * n + 1))
  obtain ⟨K, hK⟩ : ∃ K, K = th_scrape no (xs (4 * n + 1)) := ⟨_, rfl⟩
  obtain ⟨Km, hKm⟩ : ∃ K, K = tm_scrape no (xs (4 * n + 1)) := ⟨_, rfl⟩
  rw [← hK, ← hKm] at hop
  obtain ⟨hRE, hth⟩ := hop.next hR
  have hnK : nT K ≤ 1 := nT_le K
  have hKm3 : Km ≤ 3 := by
    rw [hKm]; unfold tm_scrape
    repeat' split
    all_goals simp
  have heq : nI Km = nI (cdI K) := by
    rcases hop with ⟨h1, h2, -⟩ | ⟨h1, h2, h3⟩
    · rw [h1, h2]; rfl
    · rw [h3]
  refine g_aload_n 1 C rfl dL_law_488 rfl ?_
  refine g_aload_n 0 C rfl dL_law_489 rfl ?_
  refine g_iload 4 C rfl dL_law_490 ?_
  refine g_iconst 1 C dL_law_492 (by decide) ?_
  refine g_iaddN (4 * n) 1 C dL_law_493 ?_
  refine g_sldN (4 * n + 1) C hX hbl hbA (by omega) (by omega) dL_law_494 ?_
  refine g_aload_n 3 C rfl dL_law_495 rfl ?_
  refine g_callSH (na := 3) (av := [.ref (h 0), .int (xs (4 * n + 1)), .ref ho]) (c_w_scrape l D cI cJ hst h σ np nt no ni hR.1 ho fo (xs (4 * n + 1)) K hK) C gL_law_L_scrape rfl (by decide +kernel) rfl ⟨Nat.le_of_ble_eq_true rfl, Nat.le_of_ble_eq_true rfl⟩ rfl (Nat.le_of_ble_eq_true rfl) ⟨by show k + nT K ≤ 1071; omega, by show j + 6 * nT K ≤ 11110; omega⟩ dL_law_496 ?_
  refine g_istore [(5, .int (nI (cdI K))), (0, .ref bs), (1, .ref (h 0)), (2, .ref (gm 0)), (3, .ref ho), (4, .int (nI (4 * n)))] C dL_law_499 (by decide) rfl ?_
  refine g_aload_n 3 C rfl dL_law_501 rfl ?_
  refine g_aload_n 1 C rfl dL_law_502 rfl ?_
  refine g_iload 5 C rfl dL_law_503 ?_
  refine g_iconst 1 C dL_law_505 (by decide) ?_
  refine g_iaddN (4 * n) 1 C dL_law_506 ?_
  refine g_sldN (4 * n + 1) C hX hbl hbA (by omega) (by omega) dL_law_507 ?_
  refine g_callM (na := 1) (As := [.int (xs (4 * n + 1))]) (c_m_scrape l D cI cJ gm τ np nt no ni hR.2.1 (xs (4 * n + 1)) Km hKm) C gL_law_X1_scrape rfl (by decide +kernel) rfl ⟨Nat.le_of_ble_eq_true rfl, Nat.le_of_ble_eq_true rfl⟩ rfl (Nat.le_of_ble_eq_true rfl) ⟨by show k + nT K ≤ 1071; omega, by show j + 6 * nT K ≤ 11110; omega⟩ dL_law_508 ?_
  refine g_istore [(6, .int (mR Km (potS (τ.2 4) (cl (xs (4 * n + 1))) 12))), (5, .int (nI (cdI K))), (0, .ref bs), (1, .ref (h 0)), (2, .ref (gm 0)), (3, .ref ho), (4, .int (nI (4 * n)))] C dL_law_511 (by decide) rfl ?_
  refine g_aload_n 4 C rfl dL_law_513 rfl ?_
  refine g_callM (na := 0) (As := []) (c_m_thrown l D cI cJ gm _) C gL_law_X1_thrown rfl (by decide +kernel) rfl ⟨Nat.le_of_ble_eq_true rfl, Nat.le_of_ble_eq_true rfl⟩ rfl (Nat.le_of_ble_eq_true rfl) ⟨by show k + nT K ≤ 1071; omega, by show j + 6 * nT K ≤ 11110; omega⟩ dL_law_514 ?_
  refine g_is (nI Km) hth ?_
  refine g_iload 1 C rfl dL_law_517 ?_
  refine g_icmp_eq 524 C dL_law_519 (by decide) (fun _ => ?_) (fun zz => absurd heq zz)
  refine g_iload 1 C rfl dL_law_524 ?_
  rcases hop with ⟨h1, h2, h3, h4, h5⟩ | ⟨h1, h2, h3⟩
  · subst h1; subst h2
    refine g_if_ne 541 C dL_law_526 (by decide) (fun zz => absurd rfl zz) (fun _ => ?_)
    refine g_aload_n 5 C rfl dL_law_529 rfl ?_
    refine g_iconst 0 C dL_law_530 (by decide) ?_
    refine g_lald (cA := cJ) (n := 1) (a := ho) (f := kF 0 fo (rowS (σ.2 3) (cl (xs (4 * n + 1))) nt)) 13 1 C rfl rfl (vp_in_nI (n := 0) (N := 1) (by decide) (by decide)) dL_law_531 ?_
    refine g_iload 0 C rfl dL_law_532 ?_
    refine g_i2l C dL_law_534 ?_
    refine g_lcmp C dL_law_535 ?_
    refine g_is 0 (by show lg_cmp (rowS (σ.2 3) (cl (xs (4 * n + 1))) nt : Int32).toInt64 (potS (τ.2 4) (cl (xs (4 * n + 1))) 12 : Int32).toInt64 = 0; rw [h3]; exact lg_same _) ?_
    refine g_if_eq 541 C dL_law_536 (by decide) (fun _ => ?_) (fun zz => absurd rfl zz)
    refine g_goto 1552 C dL_law_541 (by decide) ?_
    refine g_lv [2, 3, 4, 5, 6] [(0, .ref bs), (1, .ref (h 0)), (2, .ref (gm 0)), (3, .ref ho), (4, .int (nI (4 * n)))] rfl ?_
    refine g_widen (k' := k + 1) (j' := j + 6) (by omega) (by omega) ?_
    exact KK _ _ _ hRE
  · refine g_if_ne 541 C dL_law_526 (by decide) (fun _ => ?_) (fun zz => absurd (heq.trans zz) (nI_ne0 (by omega) (by omega)))
    refine g_goto 1552 C dL_law_541 (by decide) ?_
    refine g_lv [2, 3, 4, 5, 6] [(0, .ref bs), (1, .ref (h 0)), (2, .ref (gm 0)), (3, .ref ho), (4, .int (nI (4 * n)))] rfl ?_
    refine g_widen (k' := k + 1) (j' := j + 6) (by omega) (by omega) ?_
    exact KK _ _ _ hRE
set_option maxRecDepth 100000 in
set_option maxHeartbeats 4000000 in
theorem lc_picture {p : Program} {l : Launch} {e : Env} {s : State} {m : MethodId} {args : Array Value} {below : List Frame} {meth : Method} {c : Code} {D : va_G} {cI cJ : ClassId} {A : Nat → Prop} {k j : Nat} {Q : State → Prop} {bs L n : Nat} {xs : Nat → Int32} {h gm : Nat → Nat} {ho : Nat} {σ τ : gS} {fo : Nat → Int64} {np nt no ni : Nat} (hst : l.stackTraces = false) (C : gC p s m args meth c cL_law 7 RL wsL_law D (tyIJ cI cJ) A) (hX : va_X bs L xs s s.heap) (hbl : bs < s.heap.size) (hbA : ¬ A bs) (hn : 4 * n + 3 < L) (hL : L ≤ 2048) (hk : k + 1 ≤ 1071 ∧ j + 6 ≤ 11110) (hR : RR σ τ np nt no ni) (KK : ∀ (σ' τ' : gS) (fo' : Nat → Int64), RE σ' τ' → G p l e room_1 s m args below meth c D A 7 (k + 1) (j + 6) Q (wW cI cJ h ho gm σ' fo' τ') [(0, .ref bs), (1, .ref (h 0)), (2, .ref (gm 0)), (3, .ref ho), (4, .int (nI (4 * n)))] 1552 []) : G p l e room_1 s m args below meth c D A 7 k j Q (wW cI cJ h ho gm σ fo τ) [(0, .ref bs), (1, .ref (h 0)), (2, .ref (gm 0)), (3, .ref ho), (4, .int (nI (4 * n)))] 544 [] := by
  have hop := op_picture hR 
  obtain ⟨K, hK⟩ : ∃ K, K = th_picture ni := ⟨_, rfl⟩
  obtain ⟨Km, hKm⟩ : ∃ K, K = tm_picture ni := ⟨_, rfl⟩
  rw [← hK, ← hKm] at hop
  obtain ⟨hRE, hth⟩ := hop.next hR
  have hnK : nT K ≤ 1 := nT_le K
  have hKm3 : Km ≤ 3 := by
    rw [hKm]; unfold tm_picture
    repeat' split
    all_goals simp
  have heq : nI Km = nI (cdS K) := by
    rcases hop with ⟨h1, h2, -⟩ | ⟨h1, h2, h3⟩
    · rw [h1, h2]; rfl
    · rw [h3]
  refine g_aload_n 1 C rfl dL_law_544 rfl ?_
  refine g_aload_n 3 C rfl dL_law_545 rfl ?_
  refine g_callSH (na := 2) (av := [.ref (h 0), .ref ho]) (c_w_picture l D cI cJ hst h σ np nt no ni hR.1 ho fo  K hK) C gL_law_L_picture rfl (by decide +kernel) rfl ⟨Nat.le_of_ble_eq_true rfl, Nat.le_of_ble_eq_true rfl⟩ rfl (Nat.le_of_ble_eq_true rfl) ⟨by show k + nT K ≤ 1071; omega, by show j + 6 * nT K ≤ 11110; omega⟩ dL_law_546 ?_
  refine g_istore [(5, .int (nI (cdS K))), (0, .ref bs), (1, .ref (h 0)), (2, .ref (gm 0)), (3, .ref ho), (4, .int (nI (4 * n)))] C dL_law_549 (by decide) rfl ?_
  refine g_aload_n 3 C rfl dL_law_551 rfl ?_
  refine g_callM (na := 0) (As := []) (c_m_picture l D cI cJ gm τ np nt no ni hR.2.1  Km hKm) C gL_law_X1_picture rfl (by decide +kernel) rfl ⟨Nat.le_of_ble_eq_true rfl, Nat.le_of_ble_eq_true rfl⟩ rfl (Nat.le_of_ble_eq_true rfl) ⟨by show k + nT K ≤ 1071; omega, by show j + 6 * nT K ≤ 11110; omega⟩ dL_law_552 ?_
  refine g_istore [(6, .int (mR Km (nI ni))), (5, .int (nI (cdS K))), (0, .ref bs), (1, .ref (h 0)), (2, .ref (gm 0)), (3, .ref ho), (4, .int (nI (4 * n)))] C dL_law_555 (by decide) rfl ?_
  refine g_aload_n 4 C rfl dL_law_557 rfl ?_
  refine g_callM (na := 0) (As := []) (c_m_thrown l D cI cJ gm _) C gL_law_X1_thrown rfl (by decide +kernel) rfl ⟨Nat.le_of_ble_eq_true rfl, Nat.le_of_ble_eq_true rfl⟩ rfl (Nat.le_of_ble_eq_true rfl) ⟨by show k + nT K ≤ 1071; omega, by show j + 6 * nT K ≤ 11110; omega⟩ dL_law_558 ?_
  refine g_is (nI Km) hth ?_
  refine g_iload 1 C rfl dL_law_561 ?_
  refine g_icmp_eq 568 C dL_law_563 (by decide) (fun _ => ?_) (fun zz => absurd heq zz)
  refine g_iload 1 C rfl dL_law_568 ?_
  rcases hop with ⟨h1, h2, h3, h4, h5⟩ | ⟨h1, h2, h3⟩
  · subst h1; subst h2
    refine g_if_ne 585 C dL_law_570 (by decide) (fun zz => absurd rfl zz) (fun _ => ?_)
    refine g_aload_n 5 C rfl dL_law_573 rfl ?_
    refine g_iconst 0 C dL_law_574 (by decide) ?_
    refine g_lald (cA := cJ) (n := 1) (a := ho) (f := kF 0 fo (nI ni)) 13 1 C rfl rfl (vp_in_nI (n := 0) (N := 1) (by decide) (by decide)) dL_law_575 ?_
    refine g_iload 0 C rfl dL_law_576 ?_
    refine g_i2l C dL_law_578 ?_
    refine g_lcmp C dL_law_579 ?_
    refine g_is 0 (by show lg_cmp (nI ni : Int32).toInt64 (nI ni : Int32).toInt64 = 0; rw [h3]; exact lg_same _) ?_
    refine g_if_eq 585 C dL_law_580 (by decide) (fun _ => ?_) (fun zz => absurd rfl zz)
    refine g_goto 1552 C dL_law_585 (by decide) ?_
    refine g_lv [2, 3, 4, 5, 6] [(0, .ref bs), (1, .ref (h 0)), (2, .ref (gm 0)), (3, .ref ho), (4, .int (nI (4 * n)))] rfl ?_
    refine g_widen (k' := k + 1) (j' := j + 6) (by omega) (by omega) ?_
    exact KK _ _ _ hRE
  · refine g_if_ne 585 C dL_law_570 (by decide) (fun _ => ?_) (fun zz => absurd (heq.trans zz) (nI_ne0 (by omega) (by omega)))
    refine g_goto 1552 C dL_law_585 (by decide) ?_
    refine g_lv [2, 3, 4, 5, 6] [(0, .ref bs), (1, .ref (h 0)), (2, .ref (gm 0)), (3, .ref ho), (4, .int (nI (4 * n)))] rfl ?_
    refine g_widen (k' := k + 1) (j' := j + 6) (by omega) (by omega) ?_
    exact KK _ _ _ hRE
set_option maxRecDepth 100000 in
set_option maxHeartbeats 4000000 in
theorem lc_paint {p : Program} {l : Launch} {e : Env} {s : State} {m : MethodId} {args : Array Value} {below : List Frame} {meth : Method} {c : Code} {D : va_G} {cI cJ : ClassId} {A : Nat → Prop} {k j : Nat} {Q : State → Prop} {bs L n : Nat} {xs : Nat → Int32} {h gm : Nat → Nat} {ho : Nat} {σ τ : gS} {fo : Nat → Int64} {np nt no ni : Nat} (hst : l.stackTraces = false) (C : gC p s m args meth c cL_law 7 RL wsL_law D (tyIJ cI cJ) A) (hX : va_X bs L xs s s.heap) (hbl : bs < s.heap.size) (hbA : ¬ A bs) (hn : 4 * n + 3 < L) (hL : L ≤ 2048) (hk : k + 1 ≤ 1071 ∧ j + 6 ≤ 11110) (hR : RR σ τ np nt no ni) (KK : ∀ (σ' τ' : gS) (fo' : Nat → Int64), RE σ' τ' → G p l e room_1 s m args below meth c D A 7 (k + 1) (j + 6) Q (wW cI cJ h ho gm σ' fo' τ') [(0, .ref bs), (1, .ref (h 0)), (2, .ref (gm 0)), (3, .ref ho), (4, .int (nI (4 * n)))] 1552 []) : G p l e room_1 s m args below meth c D A 7 k j Q (wW cI cJ h ho gm σ fo τ) [(0, .ref bs), (1, .ref (h 0)), (2, .ref (gm 0)), (3, .ref ho), (4, .int (nI (4 * n)))] 588 [] := by
  have hop := op_paint hR (xs (4 * n + 1)) (xs (4 * n + 2)) (xs (4 * n + 3))
  obtain ⟨K, hK⟩ : ∃ K, K = th_paint σ nt no ni (xs (4 * n + 1)) (xs (4 * n + 2)) (xs (4 * n + 3)) := ⟨_, rfl⟩
  obtain ⟨Km, hKm⟩ : ∃ K, K = tm_paint τ no ni (xs (4 * n + 1)) (xs (4 * n + 2)) (xs (4 * n + 3)) := ⟨_, rfl⟩
  rw [← hK, ← hKm] at hop
  obtain ⟨hRE, hth⟩ := hop.next hR
  have hnK : nT K ≤ 1 := nT_le K
  have hKm3 : Km ≤ 3 := by
    rw [hKm]; unfold tm_paint
    repeat' split
    all_goals simp
  have heq : nI Km = nI (cdI K) := by
    rcases hop with ⟨h1, h2, -⟩ | ⟨h1, h2, h3⟩
    · rw [h1, h2]; rfl
    · rw [h3]
  refine g_aload_n 1 C rfl dL_law_588 rfl ?_
  refine g_aload_n 0 C rfl dL_law_589 rfl ?_
  refine g_iload 4 C rfl dL_law_590 ?_
  refine g_iconst 1 C dL_law_592 (by decide) ?_
  refine g_iaddN (4 * n) 1 C dL_law_593 ?_
  refine g_sldN (4 * n + 1) C hX hbl hbA (by omega) (by omega) dL_law_594 ?_
  refine g_aload_n 0 C rfl dL_law_595 rfl ?_
  refine g_iload 4 C rfl dL_law_596 ?_
  refine g_iconst 2 C dL_law_598 (by decide) ?_
  refine g_iaddN (4 * n) 2 C dL_law_599 ?_
  refine g_sldN (4 * n + 2) C hX hbl hbA (by omega) (by omega) dL_law_600 ?_
  refine g_aload_n 0 C rfl dL_law_601 rfl ?_
  refine g_iload 4 C rfl dL_law_602 ?_
  refine g_iconst 3 C dL_law_604 (by decide) ?_
  refine g_iaddN (4 * n) 3 C dL_law_605 ?_
  refine g_sldN (4 * n + 3) C hX hbl hbA (by omega) (by omega) dL_law_606 ?_
  refine g_aload_n 3 C rfl dL_law_607 rfl ?_
  refine g_callSH (na := 5) (av := [.ref (h 0), .int (xs (4 * n + 1)), .int (xs (4 * n + 2)), .int (xs (4 * n + 3)), .ref ho]) (c_w_paint l D cI cJ hst h σ np nt no ni hR.1 ho fo (xs (4 * n + 1)) (xs (4 * n + 2)) (xs (4 * n + 3)) K hK) C gL_law_L_paint rfl (by decide +kernel) rfl ⟨Nat.le_of_ble_eq_true rfl, Nat.le_of_ble_eq_true rfl⟩ rfl (Nat.le_of_ble_eq_true rfl) ⟨by show k + nT K ≤ 1071; omega, by show j + 6 * nT K ≤ 11110; omega⟩ dL_law_608 ?_
  refine g_istore [(5, .int (nI (cdI K))), (0, .ref bs), (1, .ref (h 0)), (2, .ref (gm 0)), (3, .ref ho), (4, .int (nI (4 * n)))] C dL_law_611 (by decide) rfl ?_
  refine g_aload_n 3 C rfl dL_law_613 rfl ?_
  refine g_aload_n 1 C rfl dL_law_614 rfl ?_
  refine g_iload 5 C rfl dL_law_615 ?_
  refine g_iconst 1 C dL_law_617 (by decide) ?_
  refine g_iaddN (4 * n) 1 C dL_law_618 ?_
  refine g_sldN (4 * n + 1) C hX hbl hbA (by omega) (by omega) dL_law_619 ?_
  refine g_aload_n 1 C rfl dL_law_620 rfl ?_
  refine g_iload 5 C rfl dL_law_621 ?_
  refine g_iconst 2 C dL_law_623 (by decide) ?_
  refine g_iaddN (4 * n) 2 C dL_law_624 ?_
  refine g_sldN (4 * n + 2) C hX hbl hbA (by omega) (by omega) dL_law_625 ?_
  refine g_aload_n 1 C rfl dL_law_626 rfl ?_
  refine g_iload 5 C rfl dL_law_627 ?_
  refine g_iconst 3 C dL_law_629 (by decide) ?_
  refine g_iaddN (4 * n) 3 C dL_law_630 ?_
  refine g_sldN (4 * n + 3) C hX hbl hbA (by omega) (by omega) dL_law_631 ?_
  refine g_callM (na := 3) (As := [.int (xs (4 * n + 1)), .int (xs (4 * n + 2)), .int (xs (4 * n + 3))]) (c_m_paint l D cI cJ gm τ np nt no ni hR.2.1 (xs (4 * n + 1)) (xs (4 * n + 2)) (xs (4 * n + 3)) Km hKm) C gL_law_X1_paint rfl (by decide +kernel) rfl ⟨Nat.le_of_ble_eq_true rfl, Nat.le_of_ble_eq_true rfl⟩ rfl (Nat.le_of_ble_eq_true rfl) ⟨by show k + nT K ≤ 1071; omega, by show j + 6 * nT K ≤ 11110; omega⟩ dL_law_632 ?_
  refine g_istore [(6, .int (mR Km (nI (cl (τ.2 5 (cl (xs (4 * n + 1)))) + 1)))), (5, .int (nI (cdI K))), (0, .ref bs), (1, .ref (h 0)), (2, .ref (gm 0)), (3, .ref ho), (4, .int (nI (4 * n)))] C dL_law_635 (by decide) rfl ?_
  refine g_aload_n 4 C rfl dL_law_637 rfl ?_
  refine g_callM (na := 0) (As := []) (c_m_thrown l D cI cJ gm _) C gL_law_X1_thrown rfl (by decide +kernel) rfl ⟨Nat.le_of_ble_eq_true rfl, Nat.le_of_ble_eq_true rfl⟩ rfl (Nat.le_of_ble_eq_true rfl) ⟨by show k + nT K ≤ 1071; omega, by show j + 6 * nT K ≤ 11110; omega⟩ dL_law_638 ?_
  refine g_is (nI Km) hth ?_
  refine g_iload 1 C rfl dL_law_641 ?_
  refine g_icmp_eq 648 C dL_law_643 (by decide) (fun _ => ?_) (fun zz => absurd heq zz)
  refine g_iload 1 C rfl dL_law_648 ?_
  rcases hop with ⟨h1, h2, h3, h4, h5⟩ | ⟨h1, h2, h3⟩
  · subst h1; subst h2
    refine g_if_ne 665 C dL_law_650 (by decide) (fun zz => absurd rfl zz) (fun _ => ?_)
    refine g_aload_n 5 C rfl dL_law_653 rfl ?_
    refine g_iconst 0 C dL_law_654 (by decide) ?_
    refine g_lald (cA := cJ) (n := 1) (a := ho) (f := kF 0 fo (nI (cl (σ.2 4 (cl (xs (4 * n + 1)))) + 1))) 13 1 C rfl rfl (vp_in_nI (n := 0) (N := 1) (by decide) (by decide)) dL_law_655 ?_
    refine g_iload 0 C rfl dL_law_656 ?_
    refine g_i2l C dL_law_658 ?_
    refine g_lcmp C dL_law_659 ?_
    refine g_is 0 (by show lg_cmp (nI (cl (σ.2 4 (cl (xs (4 * n + 1)))) + 1) : Int32).toInt64 (nI (cl (τ.2 5 (cl (xs (4 * n + 1)))) + 1) : Int32).toInt64 = 0; rw [h3]; exact lg_same _) ?_
    refine g_if_eq 665 C dL_law_660 (by decide) (fun _ => ?_) (fun zz => absurd rfl zz)
    refine g_goto 1552 C dL_law_665 (by decide) ?_
    refine g_lv [2, 3, 4, 5, 6] [(0, .ref bs), (1, .ref (h 0)), (2, .ref (gm 0)), (3, .ref ho), (4, .int (nI (4 * n)))] rfl ?_
    refine g_widen (k' := k + 1) (j' := j + 6) (by omega) (by omega) ?_
    exact KK _ _ _ hRE
  · refine g_if_ne 665 C dL_law_650 (by decide) (fun _ => ?_) (fun zz => absurd (heq.trans zz) (nI_ne0 (by omega) (by omega)))
    refine g_goto 1552 C dL_law_665 (by decide) ?_
    refine g_lv [2, 3, 4, 5, 6] [(0, .ref bs), (1, .ref (h 0)), (2, .ref (gm 0)), (3, .ref ho), (4, .int (nI (4 * n)))] rfl ?_
    refine g_widen (k' := k + 1) (j' := j + 6) (by omega) (by omega) ?_
    exact KK _ _ _ hRE
set_option maxRecDepth 100000 in
set_option maxHeartbeats 4000000 in
theorem lc_clean {p : Program} {l : Launch} {e : Env} {s : State} {m : MethodId} {args : Array Value} {below : List Frame} {meth : Method} {c : Code} {D : va_G} {cI cJ : ClassId} {A : Nat → Prop} {k j : Nat} {Q : State → Prop} {bs L n : Nat} {xs : Nat → Int32} {h gm : Nat → Nat} {ho : Nat} {σ τ : gS} {fo : Nat → Int64} {np nt no ni : Nat} (hst : l.stackTraces = false) (C : gC p s m args meth c cL_law 7 RL wsL_law D (tyIJ cI cJ) A) (hX : va_X bs L xs s s.heap) (hbl : bs < s.heap.size) (hbA : ¬ A bs) (hn : 4 * n + 3 < L) (hL : L ≤ 2048) (hk : k + 1 ≤ 1071 ∧ j + 6 ≤ 11110) (hR : RR σ τ np nt no ni) (KK : ∀ (σ' τ' : gS) (fo' : Nat → Int64), RE σ' τ' → G p l e room_1 s m args below meth c D A 7 (k + 1) (j + 6) Q (wW cI cJ h ho gm σ' fo' τ') [(0, .ref bs), (1, .ref (h 0)), (2, .ref (gm 0)), (3, .ref ho), (4, .int (nI (4 * n)))] 1552 []) : G p l e room_1 s m args below meth c D A 7 k j Q (wW cI cJ h ho gm σ fo τ) [(0, .ref bs), (1, .ref (h 0)), (2, .ref (gm 0)), (3, .ref ho), (4, .int (nI (4 * n)))] 668 [] := by
  have hop := op_clean hR (xs (4 * n + 1)) (xs (4 * n + 2))
  obtain ⟨K, hK⟩ : ∃ K, K = th_clean σ ni (xs (4 * n + 1)) (xs (4 * n + 2)) := ⟨_, rfl⟩
  obtain ⟨Km, hKm⟩ : ∃ K, K = tm_clean τ ni (xs (4 * n + 1)) (xs (4 * n + 2)) := ⟨_, rfl⟩
  rw [← hK, ← hKm] at hop
  obtain ⟨hRE, hth⟩ := hop.next hR
  have hnK : nT K ≤ 1 := nT_le K
  have hKm3 : Km ≤ 3 := by
    rw [hKm]; unfold tm_clean
    repeat' split
    all_goals simp
  have heq : nI Km = nI (cdI K) := by
    rcases hop with ⟨h1, h2, -⟩ | ⟨h1, h2, h3⟩
    · rw [h1, h2]; rfl
    · rw [h3]
  refine g_aload_n 1 C rfl dL_law_668 rfl ?_
  refine g_aload_n 0 C rfl dL_law_669 rfl ?_
  refine g_iload 4 C rfl dL_law_670 ?_
  refine g_iconst 1 C dL_law_672 (by decide) ?_
  refine g_iaddN (4 * n) 1 C dL_law_673 ?_
  refine g_sldN (4 * n + 1) C hX hbl hbA (by omega) (by omega) dL_law_674 ?_
  refine g_aload_n 0 C rfl dL_law_675 rfl ?_
  refine g_iload 4 C rfl dL_law_676 ?_
  refine g_iconst 2 C dL_law_678 (by decide) ?_
  refine g_iaddN (4 * n) 2 C dL_law_679 ?_
  refine g_sldN (4 * n + 2) C hX hbl hbA (by omega) (by omega) dL_law_680 ?_
  refine g_aload_n 3 C rfl dL_law_681 rfl ?_
  refine g_callSH (na := 4) (av := [.ref (h 0), .int (xs (4 * n + 1)), .int (xs (4 * n + 2)), .ref ho]) (c_w_clean l D cI cJ hst h σ np nt no ni hR.1 ho fo (xs (4 * n + 1)) (xs (4 * n + 2)) K hK) C gL_law_L_clean rfl (by decide +kernel) rfl ⟨Nat.le_of_ble_eq_true rfl, Nat.le_of_ble_eq_true rfl⟩ rfl (Nat.le_of_ble_eq_true rfl) ⟨by show k + nT K ≤ 1071; omega, by show j + 6 * nT K ≤ 11110; omega⟩ dL_law_682 ?_
  refine g_istore [(5, .int (nI (cdI K))), (0, .ref bs), (1, .ref (h 0)), (2, .ref (gm 0)), (3, .ref ho), (4, .int (nI (4 * n)))] C dL_law_685 (by decide) rfl ?_
  refine g_aload_n 3 C rfl dL_law_687 rfl ?_
  refine g_aload_n 1 C rfl dL_law_688 rfl ?_
  refine g_iload 5 C rfl dL_law_689 ?_
  refine g_iconst 1 C dL_law_691 (by decide) ?_
  refine g_iaddN (4 * n) 1 C dL_law_692 ?_
  refine g_sldN (4 * n + 1) C hX hbl hbA (by omega) (by omega) dL_law_693 ?_
  refine g_aload_n 1 C rfl dL_law_694 rfl ?_
  refine g_iload 5 C rfl dL_law_695 ?_
  refine g_iconst 2 C dL_law_697 (by decide) ?_
  refine g_iaddN (4 * n) 2 C dL_law_698 ?_
  refine g_sldN (4 * n + 2) C hX hbl hbA (by omega) (by omega) dL_law_699 ?_
  refine g_callM (na := 2) (As := [.int (xs (4 * n + 1)), .int (xs (4 * n + 2))]) (c_m_clean l D cI cJ gm τ np nt no ni hR.2.1 (xs (4 * n + 1)) (xs (4 * n + 2)) Km hKm) C gL_law_X1_clean rfl (by decide +kernel) rfl ⟨Nat.le_of_ble_eq_true rfl, Nat.le_of_ble_eq_true rfl⟩ rfl (Nat.le_of_ble_eq_true rfl) ⟨by show k + nT K ≤ 1071; omega, by show j + 6 * nT K ≤ 11110; omega⟩ dL_law_700 ?_
  refine g_istore [(6, .int (mR Km ((clM (τ.2 3) (τ.2 6) (cl (xs (4 * n + 1))) (cl (τ.2 5 (cl (xs (4 * n + 1))))) (cl (xs (4 * n + 2)))).2.2))), (5, .int (nI (cdI K))), (0, .ref bs), (1, .ref (h 0)), (2, .ref (gm 0)), (3, .ref ho), (4, .int (nI (4 * n)))] C dL_law_703 (by decide) rfl ?_
  refine g_aload_n 4 C rfl dL_law_705 rfl ?_
  refine g_callM (na := 0) (As := []) (c_m_thrown l D cI cJ gm _) C gL_law_X1_thrown rfl (by decide +kernel) rfl ⟨Nat.le_of_ble_eq_true rfl, Nat.le_of_ble_eq_true rfl⟩ rfl (Nat.le_of_ble_eq_true rfl) ⟨by show k + nT K ≤ 1071; omega, by show j + 6 * nT K ≤ 11110; omega⟩ dL_law_706 ?_
  refine g_is (nI Km) hth ?_
  refine g_iload 1 C rfl dL_law_709 ?_
  refine g_icmp_eq 716 C dL_law_711 (by decide) (fun _ => ?_) (fun zz => absurd heq zz)
  refine g_iload 1 C rfl dL_law_716 ?_
  rcases hop with ⟨h1, h2, h3, h4, h5⟩ | ⟨h1, h2, h3⟩
  · subst h1; subst h2
    refine g_if_ne 733 C dL_law_718 (by decide) (fun zz => absurd rfl zz) (fun _ => ?_)
    refine g_aload_n 5 C rfl dL_law_721 rfl ?_
    refine g_iconst 0 C dL_law_722 (by decide) ?_
    refine g_lald (cA := cJ) (n := 1) (a := ho) (f := kF 0 fo (clS (σ.2 3) nt (cl (xs (4 * n + 1))) (cl (σ.2 4 (cl (xs (4 * n + 1))))) (cl (xs (4 * n + 2))))) 13 1 C rfl rfl (vp_in_nI (n := 0) (N := 1) (by decide) (by decide)) dL_law_723 ?_
    refine g_iload 0 C rfl dL_law_724 ?_
    refine g_i2l C dL_law_726 ?_
    refine g_lcmp C dL_law_727 ?_
    refine g_is 0 (by show lg_cmp (clS (σ.2 3) nt (cl (xs (4 * n + 1))) (cl (σ.2 4 (cl (xs (4 * n + 1))))) (cl (xs (4 * n + 2))) : Int32).toInt64 ((clM (τ.2 3) (τ.2 6) (cl (xs (4 * n + 1))) (cl (τ.2 5 (cl (xs (4 * n + 1))))) (cl (xs (4 * n + 2)))).2.2 : Int32).toInt64 = 0; rw [h3]; exact lg_same _) ?_
    refine g_if_eq 733 C dL_law_728 (by decide) (fun _ => ?_) (fun zz => absurd rfl zz)
    refine g_goto 1552 C dL_law_733 (by decide) ?_
    refine g_lv [2, 3, 4, 5, 6] [(0, .ref bs), (1, .ref (h 0)), (2, .ref (gm 0)), (3, .ref ho), (4, .int (nI (4 * n)))] rfl ?_
    refine g_widen (k' := k + 1) (j' := j + 6) (by omega) (by omega) ?_
    exact KK _ _ _ hRE
  · refine g_if_ne 733 C dL_law_718 (by decide) (fun _ => ?_) (fun zz => absurd (heq.trans zz) (nI_ne0 (by omega) (by omega)))
    refine g_goto 1552 C dL_law_733 (by decide) ?_
    refine g_lv [2, 3, 4, 5, 6] [(0, .ref bs), (1, .ref (h 0)), (2, .ref (gm 0)), (3, .ref ho), (4, .int (nI (4 * n)))] rfl ?_
    refine g_widen (k' := k + 1) (j' := j + 6) (by omega) (by omega) ?_
    exact KK _ _ _ hRE
set_option maxRecDepth 100000 in
set_option maxHeartbeats 4000000 in
theorem lc_damp {p : Program} {l : Launch} {e : Env} {s : State} {m : MethodId} {args : Array Value} {below : List Frame} {meth : Method} {c : Code} {D : va_G} {cI cJ : ClassId} {A : Nat → Prop} {k j : Nat} {Q : State → Prop} {bs L n : Nat} {xs : Nat → Int32} {h gm : Nat → Nat} {ho : Nat} {σ τ : gS} {fo : Nat → Int64} {np nt no ni : Nat} (hst : l.stackTraces = false) (C : gC p s m args meth c cL_law 7 RL wsL_law D (tyIJ cI cJ) A) (hX : va_X bs L xs s s.heap) (hbl : bs < s.heap.size) (hbA : ¬ A bs) (hn : 4 * n + 3 < L) (hL : L ≤ 2048) (hk : k + 1 ≤ 1071 ∧ j + 6 ≤ 11110) (hR : RR σ τ np nt no ni) (KK : ∀ (σ' τ' : gS) (fo' : Nat → Int64), RE σ' τ' → G p l e room_1 s m args below meth c D A 7 (k + 1) (j + 6) Q (wW cI cJ h ho gm σ' fo' τ') [(0, .ref bs), (1, .ref (h 0)), (2, .ref (gm 0)), (3, .ref ho), (4, .int (nI (4 * n)))] 1552 []) : G p l e room_1 s m args below meth c D A 7 k j Q (wW cI cJ h ho gm σ fo τ) [(0, .ref bs), (1, .ref (h 0)), (2, .ref (gm 0)), (3, .ref ho), (4, .int (nI (4 * n)))] 736 [] := by
  have hop := op_damp hR (xs (4 * n + 1)) (xs (4 * n + 2))
  obtain ⟨K, hK⟩ : ∃ K, K = th_damp (xs (4 * n + 1)) (xs (4 * n + 2)) := ⟨_, rfl⟩
  obtain ⟨Km, hKm⟩ : ∃ K, K = tm_damp (xs (4 * n + 1)) (xs (4 * n + 2)) := ⟨_, rfl⟩
  rw [← hK, ← hKm] at hop
  obtain ⟨hRE, hth⟩ := hop.next hR
  have hnK : nT K ≤ 1 := nT_le K
  have hKm3 : Km ≤ 3 := by
    rw [hKm]; unfold tm_damp
    repeat' split
    all_goals simp
  have heq : nI Km = nI (cdI K) := by
    rcases hop with ⟨h1, h2, -⟩ | ⟨h1, h2, h3⟩
    · rw [h1, h2]; rfl
    · rw [h3]
  refine g_aload_n 1 C rfl dL_law_736 rfl ?_
  refine g_aload_n 0 C rfl dL_law_737 rfl ?_
  refine g_iload 4 C rfl dL_law_738 ?_
  refine g_iconst 1 C dL_law_740 (by decide) ?_
  refine g_iaddN (4 * n) 1 C dL_law_741 ?_
  refine g_sldN (4 * n + 1) C hX hbl hbA (by omega) (by omega) dL_law_742 ?_
  refine g_aload_n 0 C rfl dL_law_743 rfl ?_
  refine g_iload 4 C rfl dL_law_744 ?_
  refine g_iconst 2 C dL_law_746 (by decide) ?_
  refine g_iaddN (4 * n) 2 C dL_law_747 ?_
  refine g_sldN (4 * n + 2) C hX hbl hbA (by omega) (by omega) dL_law_748 ?_
  refine g_aload_n 3 C rfl dL_law_749 rfl ?_
  refine g_callSH (na := 4) (av := [.ref (h 0), .int (xs (4 * n + 1)), .int (xs (4 * n + 2)), .ref ho]) (c_w_damp l D cI cJ hst h σ np nt no ni hR.1 ho fo (xs (4 * n + 1)) (xs (4 * n + 2)) K hK) C gL_law_L_damp rfl (by decide +kernel) rfl ⟨Nat.le_of_ble_eq_true rfl, Nat.le_of_ble_eq_true rfl⟩ rfl (Nat.le_of_ble_eq_true rfl) ⟨by show k + nT K ≤ 1071; omega, by show j + 6 * nT K ≤ 11110; omega⟩ dL_law_750 ?_
  refine g_istore [(5, .int (nI (cdI K))), (0, .ref bs), (1, .ref (h 0)), (2, .ref (gm 0)), (3, .ref ho), (4, .int (nI (4 * n)))] C dL_law_753 (by decide) rfl ?_
  refine g_aload_n 3 C rfl dL_law_755 rfl ?_
  refine g_aload_n 1 C rfl dL_law_756 rfl ?_
  refine g_iload 5 C rfl dL_law_757 ?_
  refine g_iconst 1 C dL_law_759 (by decide) ?_
  refine g_iaddN (4 * n) 1 C dL_law_760 ?_
  refine g_sldN (4 * n + 1) C hX hbl hbA (by omega) (by omega) dL_law_761 ?_
  refine g_aload_n 1 C rfl dL_law_762 rfl ?_
  refine g_iload 5 C rfl dL_law_763 ?_
  refine g_iconst 2 C dL_law_765 (by decide) ?_
  refine g_iaddN (4 * n) 2 C dL_law_766 ?_
  refine g_sldN (4 * n + 2) C hX hbl hbA (by omega) (by omega) dL_law_767 ?_
  refine g_callM (na := 2) (As := [.int (xs (4 * n + 1)), .int (xs (4 * n + 2))]) (c_m_damp l D cI cJ gm τ np nt no ni hR.2.1 (xs (4 * n + 1)) (xs (4 * n + 2)) Km hKm) C gL_law_X1_damp rfl (by decide +kernel) rfl ⟨Nat.le_of_ble_eq_true rfl, Nat.le_of_ble_eq_true rfl⟩ rfl (Nat.le_of_ble_eq_true rfl) ⟨by show k + nT K ≤ 1071; omega, by show j + 6 * nT K ≤ 11110; omega⟩ dL_law_768 ?_
  refine g_istore [(6, .int (mR Km (τ.2 12 (cl (xs (4 * n + 1)))))), (5, .int (nI (cdI K))), (0, .ref bs), (1, .ref (h 0)), (2, .ref (gm 0)), (3, .ref ho), (4, .int (nI (4 * n)))] C dL_law_771 (by decide) rfl ?_
  refine g_aload_n 4 C rfl dL_law_773 rfl ?_
  refine g_callM (na := 0) (As := []) (c_m_thrown l D cI cJ gm _) C gL_law_X1_thrown rfl (by decide +kernel) rfl ⟨Nat.le_of_ble_eq_true rfl, Nat.le_of_ble_eq_true rfl⟩ rfl (Nat.le_of_ble_eq_true rfl) ⟨by show k + nT K ≤ 1071; omega, by show j + 6 * nT K ≤ 11110; omega⟩ dL_law_774 ?_
  refine g_is (nI Km) hth ?_
  refine g_iload 1 C rfl dL_law_777 ?_
  refine g_icmp_eq 784 C dL_law_779 (by decide) (fun _ => ?_) (fun zz => absurd heq zz)
  refine g_iload 1 C rfl dL_law_784 ?_
  rcases hop with ⟨h1, h2, h3, h4, h5⟩ | ⟨h1, h2, h3⟩
  · subst h1; subst h2
    refine g_if_ne 801 C dL_law_786 (by decide) (fun zz => absurd rfl zz) (fun _ => ?_)
    refine g_aload_n 5 C rfl dL_law_789 rfl ?_
    refine g_iconst 0 C dL_law_790 (by decide) ?_
    refine g_lald (cA := cJ) (n := 1) (a := ho) (f := kF 0 fo (σ.2 10 (cl (xs (4 * n + 1))))) 13 1 C rfl rfl (vp_in_nI (n := 0) (N := 1) (by decide) (by decide)) dL_law_791 ?_
    refine g_iload 0 C rfl dL_law_792 ?_
    refine g_i2l C dL_law_794 ?_
    refine g_lcmp C dL_law_795 ?_
    refine g_is 0 (by show lg_cmp (σ.2 10 (cl (xs (4 * n + 1))) : Int32).toInt64 (τ.2 12 (cl (xs (4 * n + 1))) : Int32).toInt64 = 0; rw [h3]; exact lg_same _) ?_
    refine g_if_eq 801 C dL_law_796 (by decide) (fun _ => ?_) (fun zz => absurd rfl zz)
    refine g_goto 1552 C dL_law_801 (by decide) ?_
    refine g_lv [2, 3, 4, 5, 6] [(0, .ref bs), (1, .ref (h 0)), (2, .ref (gm 0)), (3, .ref ho), (4, .int (nI (4 * n)))] rfl ?_
    refine g_widen (k' := k + 1) (j' := j + 6) (by omega) (by omega) ?_
    exact KK _ _ _ hRE
  · refine g_if_ne 801 C dL_law_786 (by decide) (fun _ => ?_) (fun zz => absurd (heq.trans zz) (nI_ne0 (by omega) (by omega)))
    refine g_goto 1552 C dL_law_801 (by decide) ?_
    refine g_lv [2, 3, 4, 5, 6] [(0, .ref bs), (1, .ref (h 0)), (2, .ref (gm 0)), (3, .ref ho), (4, .int (nI (4 * n)))] rfl ?_
    refine g_widen (k' := k + 1) (j' := j + 6) (by omega) (by omega) ?_
    exact KK _ _ _ hRE
set_option maxRecDepth 100000 in
set_option maxHeartbeats 4000000 in
theorem lc_lend {p : Program} {l : Launch} {e : Env} {s : State} {m : MethodId} {args : Array Value} {below : List Frame} {meth : Method} {c : Code} {D : va_G} {cI cJ : ClassId} {A : Nat → Prop} {k j : Nat} {Q : State → Prop} {bs L n : Nat} {xs : Nat → Int32} {h gm : Nat → Nat} {ho : Nat} {σ τ : gS} {fo : Nat → Int64} {np nt no ni : Nat} (hst : l.stackTraces = false) (C : gC p s m args meth c cL_law 7 RL wsL_law D (tyIJ cI cJ) A) (hX : va_X bs L xs s s.heap) (hbl : bs < s.heap.size) (hbA : ¬ A bs) (hn : 4 * n + 3 < L) (hL : L ≤ 2048) (hk : k + 1 ≤ 1071 ∧ j + 6 ≤ 11110) (hR : RR σ τ np nt no ni) (KK : ∀ (σ' τ' : gS) (fo' : Nat → Int64), RE σ' τ' → G p l e room_1 s m args below meth c D A 7 (k + 1) (j + 6) Q (wW cI cJ h ho gm σ' fo' τ') [(0, .ref bs), (1, .ref (h 0)), (2, .ref (gm 0)), (3, .ref ho), (4, .int (nI (4 * n)))] 1552 []) : G p l e room_1 s m args below meth c D A 7 k j Q (wW cI cJ h ho gm σ fo τ) [(0, .ref bs), (1, .ref (h 0)), (2, .ref (gm 0)), (3, .ref ho), (4, .int (nI (4 * n)))] 804 [] := by
  have hop := op_lend hR (xs (4 * n + 1)) (xs (4 * n + 2)) (xs (4 * n + 3))
  obtain ⟨K, hK⟩ : ∃ K, K = th_lend σ ni (xs (4 * n + 1)) (xs (4 * n + 2)) (xs (4 * n + 3)) := ⟨_, rfl⟩
  obtain ⟨Km, hKm⟩ : ∃ K, K = tm_lend τ ni (xs (4 * n + 1)) (xs (4 * n + 2)) (xs (4 * n + 3)) := ⟨_, rfl⟩
  rw [← hK, ← hKm] at hop
  obtain ⟨hRE, hth⟩ := hop.next hR
  have hnK : nT K ≤ 1 := nT_le K
  have hKm3 : Km ≤ 3 := by
    rw [hKm]; unfold tm_lend
    repeat' split
    all_goals simp
  have heq : nI Km = nI (cdI K) := by
    rcases hop with ⟨h1, h2, -⟩ | ⟨h1, h2, h3⟩
    · rw [h1, h2]; rfl
    · rw [h3]
  refine g_aload_n 1 C rfl dL_law_804 rfl ?_
  refine g_aload_n 0 C rfl dL_law_805 rfl ?_
  refine g_iload 4 C rfl dL_law_806 ?_
  refine g_iconst 1 C dL_law_808 (by decide) ?_
  refine g_iaddN (4 * n) 1 C dL_law_809 ?_
  refine g_sldN (4 * n + 1) C hX hbl hbA (by omega) (by omega) dL_law_810 ?_
  refine g_aload_n 0 C rfl dL_law_811 rfl ?_
  refine g_iload 4 C rfl dL_law_812 ?_
  refine g_iconst 2 C dL_law_814 (by decide) ?_
  refine g_iaddN (4 * n) 2 C dL_law_815 ?_
  refine g_sldN (4 * n + 2) C hX hbl hbA (by omega) (by omega) dL_law_816 ?_
  refine g_aload_n 0 C rfl dL_law_817 rfl ?_
  refine g_iload 4 C rfl dL_law_818 ?_
  refine g_iconst 3 C dL_law_820 (by decide) ?_
  refine g_iaddN (4 * n) 3 C dL_law_821 ?_
  refine g_sldN (4 * n + 3) C hX hbl hbA (by omega) (by omega) dL_law_822 ?_
  refine g_aload_n 3 C rfl dL_law_823 rfl ?_
  refine g_callSH (na := 5) (av := [.ref (h 0), .int (xs (4 * n + 1)), .int (xs (4 * n + 2)), .int (xs (4 * n + 3)), .ref ho]) (c_w_lend l D cI cJ hst h σ np nt no ni hR.1 ho fo (xs (4 * n + 1)) (xs (4 * n + 2)) (xs (4 * n + 3)) K hK) C gL_law_L_lend rfl (by decide +kernel) rfl ⟨Nat.le_of_ble_eq_true rfl, Nat.le_of_ble_eq_true rfl⟩ rfl (Nat.le_of_ble_eq_true rfl) ⟨by show k + nT K ≤ 1071; omega, by show j + 6 * nT K ≤ 11110; omega⟩ dL_law_824 ?_
  refine g_istore [(5, .int (nI (cdI K))), (0, .ref bs), (1, .ref (h 0)), (2, .ref (gm 0)), (3, .ref ho), (4, .int (nI (4 * n)))] C dL_law_827 (by decide) rfl ?_
  refine g_aload_n 3 C rfl dL_law_829 rfl ?_
  refine g_aload_n 1 C rfl dL_law_830 rfl ?_
  refine g_iload 5 C rfl dL_law_831 ?_
  refine g_iconst 1 C dL_law_833 (by decide) ?_
  refine g_iaddN (4 * n) 1 C dL_law_834 ?_
  refine g_sldN (4 * n + 1) C hX hbl hbA (by omega) (by omega) dL_law_835 ?_
  refine g_aload_n 1 C rfl dL_law_836 rfl ?_
  refine g_iload 5 C rfl dL_law_837 ?_
  refine g_iconst 2 C dL_law_839 (by decide) ?_
  refine g_iaddN (4 * n) 2 C dL_law_840 ?_
  refine g_sldN (4 * n + 2) C hX hbl hbA (by omega) (by omega) dL_law_841 ?_
  refine g_aload_n 1 C rfl dL_law_842 rfl ?_
  refine g_iload 5 C rfl dL_law_843 ?_
  refine g_iconst 3 C dL_law_845 (by decide) ?_
  refine g_iaddN (4 * n) 3 C dL_law_846 ?_
  refine g_sldN (4 * n + 3) C hX hbl hbA (by omega) (by omega) dL_law_847 ?_
  refine g_callM (na := 3) (As := [.int (xs (4 * n + 1)), .int (xs (4 * n + 2)), .int (xs (4 * n + 3))]) (c_m_lend l D cI cJ gm τ np nt no ni hR.2.1 (xs (4 * n + 1)) (xs (4 * n + 2)) (xs (4 * n + 3)) Km hKm) C gL_law_X1_lend rfl (by decide +kernel) rfl ⟨Nat.le_of_ble_eq_true rfl, Nat.le_of_ble_eq_true rfl⟩ rfl (Nat.le_of_ble_eq_true rfl) ⟨by show k + nT K ≤ 1071; omega, by show j + 6 * nT K ≤ 11110; omega⟩ dL_law_848 ?_
  refine g_istore [(6, .int (mR Km (valM (ml0 τ (cl (xs (4 * n + 1))) (xs (4 * n + 2)) (xs (4 * n + 3))) nt ni (cl (xs (4 * n + 1))) / 100 + 1))), (5, .int (nI (cdI K))), (0, .ref bs), (1, .ref (h 0)), (2, .ref (gm 0)), (3, .ref ho), (4, .int (nI (4 * n)))] C dL_law_851 (by decide) rfl ?_
  refine g_aload_n 4 C rfl dL_law_853 rfl ?_
  refine g_callM (na := 0) (As := []) (c_m_thrown l D cI cJ gm _) C gL_law_X1_thrown rfl (by decide +kernel) rfl ⟨Nat.le_of_ble_eq_true rfl, Nat.le_of_ble_eq_true rfl⟩ rfl (Nat.le_of_ble_eq_true rfl) ⟨by show k + nT K ≤ 1071; omega, by show j + 6 * nT K ≤ 11110; omega⟩ dL_law_854 ?_
  refine g_is (nI Km) hth ?_
  refine g_iload 1 C rfl dL_law_857 ?_
  refine g_icmp_eq 864 C dL_law_859 (by decide) (fun _ => ?_) (fun zz => absurd heq zz)
  refine g_iload 1 C rfl dL_law_864 ?_
  rcases hop with ⟨h1, h2, h3, h4, h5⟩ | ⟨h1, h2, h3⟩
  · subst h1; subst h2
    refine g_if_ne 881 C dL_law_866 (by decide) (fun zz => absurd rfl zz) (fun _ => ?_)
    refine g_aload_n 5 C rfl dL_law_869 rfl ?_
    refine g_iconst 0 C dL_law_870 (by decide) ?_
    refine g_lald (cA := cJ) (n := 1) (a := ho) (f := kF 0 fo (valA σ np nt ni (cl (xs (4 * n + 1))) / 100 + 1)) 13 1 C rfl rfl (vp_in_nI (n := 0) (N := 1) (by decide) (by decide)) dL_law_871 ?_
    refine g_iload 0 C rfl dL_law_872 ?_
    refine g_i2l C dL_law_874 ?_
    refine g_lcmp C dL_law_875 ?_
    refine g_is 0 (by show lg_cmp (valA σ np nt ni (cl (xs (4 * n + 1))) / 100 + 1 : Int32).toInt64 (valM (ml0 τ (cl (xs (4 * n + 1))) (xs (4 * n + 2)) (xs (4 * n + 3))) nt ni (cl (xs (4 * n + 1))) / 100 + 1 : Int32).toInt64 = 0; rw [h3]; exact lg_same _) ?_
    refine g_if_eq 881 C dL_law_876 (by decide) (fun _ => ?_) (fun zz => absurd rfl zz)
    refine g_goto 1552 C dL_law_881 (by decide) ?_
    refine g_lv [2, 3, 4, 5, 6] [(0, .ref bs), (1, .ref (h 0)), (2, .ref (gm 0)), (3, .ref ho), (4, .int (nI (4 * n)))] rfl ?_
    refine g_widen (k' := k + 1) (j' := j + 6) (by omega) (by omega) ?_
    exact KK _ _ _ hRE
  · refine g_if_ne 881 C dL_law_866 (by decide) (fun _ => ?_) (fun zz => absurd (heq.trans zz) (nI_ne0 (by omega) (by omega)))
    refine g_goto 1552 C dL_law_881 (by decide) ?_
    refine g_lv [2, 3, 4, 5, 6] [(0, .ref bs), (1, .ref (h 0)), (2, .ref (gm 0)), (3, .ref ho), (4, .int (nI (4 * n)))] rfl ?_
    refine g_widen (k' := k + 1) (j' := j + 6) (by omega) (by omega) ?_
    exact KK _ _ _ hRE
set_option maxRecDepth 100000 in
set_option maxHeartbeats 4000000 in
theorem lc_sell {p : Program} {l : Launch} {e : Env} {s : State} {m : MethodId} {args : Array Value} {below : List Frame} {meth : Method} {c : Code} {D : va_G} {cI cJ : ClassId} {A : Nat → Prop} {k j : Nat} {Q : State → Prop} {bs L n : Nat} {xs : Nat → Int32} {h gm : Nat → Nat} {ho : Nat} {σ τ : gS} {fo : Nat → Int64} {np nt no ni : Nat} (hst : l.stackTraces = false) (C : gC p s m args meth c cL_law 7 RL wsL_law D (tyIJ cI cJ) A) (hX : va_X bs L xs s s.heap) (hbl : bs < s.heap.size) (hbA : ¬ A bs) (hn : 4 * n + 3 < L) (hL : L ≤ 2048) (hk : k + 1 ≤ 1071 ∧ j + 6 ≤ 11110) (hR : RR σ τ np nt no ni) (KK : ∀ (σ' τ' : gS) (fo' : Nat → Int64), RE σ' τ' → G p l e room_1 s m args below meth c D A 7 (k + 1) (j + 6) Q (wW cI cJ h ho gm σ' fo' τ') [(0, .ref bs), (1, .ref (h 0)), (2, .ref (gm 0)), (3, .ref ho), (4, .int (nI (4 * n)))] 1552 []) : G p l e room_1 s m args below meth c D A 7 k j Q (wW cI cJ h ho gm σ fo τ) [(0, .ref bs), (1, .ref (h 0)), (2, .ref (gm 0)), (3, .ref ho), (4, .int (nI (4 * n)))] 884 [] := by
  have hop := op_sell hR (xs (4 * n + 1)) (xs (4 * n + 2))
  obtain ⟨K, hK⟩ : ∃ K, K = th_sell σ ni (xs (4 * n + 1)) (xs (4 * n + 2)) := ⟨_, rfl⟩
  obtain ⟨Km, hKm⟩ : ∃ K, K = tm_sell τ ni (xs (4 * n + 1)) (xs (4 * n + 2)) := ⟨_, rfl⟩
  rw [← hK, ← hKm] at hop
  obtain ⟨hRE, hth⟩ := hop.next hR
  have hnK : nT K ≤ 1 := nT_le K
  have hKm3 : Km ≤ 3 := by
    rw [hKm]; unfold tm_sell
    repeat' split
    all_goals simp
  have heq : nI Km = nI (cdI K) := by
    rcases hop with ⟨h1, h2, -⟩ | ⟨h1, h2, h3⟩
    · rw [h1, h2]; rfl
    · rw [h3]
  refine g_aload_n 1 C rfl dL_law_884 rfl ?_
  refine g_aload_n 0 C rfl dL_law_885 rfl ?_
  refine g_iload 4 C rfl dL_law_886 ?_
  refine g_iconst 1 C dL_law_888 (by decide) ?_
  refine g_iaddN (4 * n) 1 C dL_law_889 ?_
  refine g_sldN (4 * n + 1) C hX hbl hbA (by omega) (by omega) dL_law_890 ?_
  refine g_aload_n 0 C rfl dL_law_891 rfl ?_
  refine g_iload 4 C rfl dL_law_892 ?_
  refine g_iconst 2 C dL_law_894 (by decide) ?_
  refine g_iaddN (4 * n) 2 C dL_law_895 ?_
  refine g_sldN (4 * n + 2) C hX hbl hbA (by omega) (by omega) dL_law_896 ?_
  refine g_aload_n 3 C rfl dL_law_897 rfl ?_
  refine g_callSH (na := 4) (av := [.ref (h 0), .int (xs (4 * n + 1)), .int (xs (4 * n + 2)), .ref ho]) (c_w_sell l D cI cJ hst h σ np nt no ni hR.1 ho fo (xs (4 * n + 1)) (xs (4 * n + 2)) K hK) C gL_law_L_sell rfl (by decide +kernel) rfl ⟨Nat.le_of_ble_eq_true rfl, Nat.le_of_ble_eq_true rfl⟩ rfl (Nat.le_of_ble_eq_true rfl) ⟨by show k + nT K ≤ 1071; omega, by show j + 6 * nT K ≤ 11110; omega⟩ dL_law_898 ?_
  refine g_istore [(5, .int (nI (cdI K))), (0, .ref bs), (1, .ref (h 0)), (2, .ref (gm 0)), (3, .ref ho), (4, .int (nI (4 * n)))] C dL_law_901 (by decide) rfl ?_
  refine g_aload_n 3 C rfl dL_law_903 rfl ?_
  refine g_aload_n 1 C rfl dL_law_904 rfl ?_
  refine g_iload 5 C rfl dL_law_905 ?_
  refine g_iconst 1 C dL_law_907 (by decide) ?_
  refine g_iaddN (4 * n) 1 C dL_law_908 ?_
  refine g_sldN (4 * n + 1) C hX hbl hbA (by omega) (by omega) dL_law_909 ?_
  refine g_aload_n 1 C rfl dL_law_910 rfl ?_
  refine g_iload 5 C rfl dL_law_911 ?_
  refine g_iconst 2 C dL_law_913 (by decide) ?_
  refine g_iaddN (4 * n) 2 C dL_law_914 ?_
  refine g_sldN (4 * n + 2) C hX hbl hbA (by omega) (by omega) dL_law_915 ?_
  refine g_callM (na := 2) (As := [.int (xs (4 * n + 1)), .int (xs (4 * n + 2))]) (c_m_sell l D cI cJ gm τ np nt no ni hR.2.1 (xs (4 * n + 1)) (xs (4 * n + 2)) Km hKm) C gL_law_X1_sell rfl (by decide +kernel) rfl ⟨Nat.le_of_ble_eq_true rfl, Nat.le_of_ble_eq_true rfl⟩ rfl (Nat.le_of_ble_eq_true rfl) ⟨by show k + nT K ≤ 1071; omega, by show j + 6 * nT K ≤ 11110; omega⟩ dL_law_916 ?_
  refine g_istore [(6, .int (mR Km (valM (m_sell0 τ (cl (xs (4 * n + 1))) (xs (4 * n + 2))) nt ni (cl (xs (4 * n + 1)))))), (5, .int (nI (cdI K))), (0, .ref bs), (1, .ref (h 0)), (2, .ref (gm 0)), (3, .ref ho), (4, .int (nI (4 * n)))] C dL_law_919 (by decide) rfl ?_
  refine g_aload_n 4 C rfl dL_law_921 rfl ?_
  refine g_callM (na := 0) (As := []) (c_m_thrown l D cI cJ gm _) C gL_law_X1_thrown rfl (by decide +kernel) rfl ⟨Nat.le_of_ble_eq_true rfl, Nat.le_of_ble_eq_true rfl⟩ rfl (Nat.le_of_ble_eq_true rfl) ⟨by show k + nT K ≤ 1071; omega, by show j + 6 * nT K ≤ 11110; omega⟩ dL_law_922 ?_
  refine g_is (nI Km) hth ?_
  refine g_iload 1 C rfl dL_law_925 ?_
  refine g_icmp_eq 932 C dL_law_927 (by decide) (fun _ => ?_) (fun zz => absurd heq zz)
  refine g_iload 1 C rfl dL_law_932 ?_
  rcases hop with ⟨h1, h2, h3, h4, h5⟩ | ⟨h1, h2, h3⟩
  · subst h1; subst h2
    refine g_if_ne 949 C dL_law_934 (by decide) (fun zz => absurd rfl zz) (fun _ => ?_)
    refine g_aload_n 5 C rfl dL_law_937 rfl ?_
    refine g_iconst 0 C dL_law_938 (by decide) ?_
    refine g_lald (cA := cJ) (n := 1) (a := ho) (f := kF 0 fo (valA (s_sell σ (cl (xs (4 * n + 1))) (xs (4 * n + 2))) np nt ni (cl (xs (4 * n + 1))))) 13 1 C rfl rfl (vp_in_nI (n := 0) (N := 1) (by decide) (by decide)) dL_law_939 ?_
    refine g_iload 0 C rfl dL_law_940 ?_
    refine g_i2l C dL_law_942 ?_
    refine g_lcmp C dL_law_943 ?_
    refine g_is 0 (by show lg_cmp (valA (s_sell σ (cl (xs (4 * n + 1))) (xs (4 * n + 2))) np nt ni (cl (xs (4 * n + 1))) : Int32).toInt64 (valM (m_sell0 τ (cl (xs (4 * n + 1))) (xs (4 * n + 2))) nt ni (cl (xs (4 * n + 1))) : Int32).toInt64 = 0; rw [h3]; exact lg_same _) ?_
    refine g_if_eq 949 C dL_law_944 (by decide) (fun _ => ?_) (fun zz => absurd rfl zz)
    refine g_goto 1552 C dL_law_949 (by decide) ?_
    refine g_lv [2, 3, 4, 5, 6] [(0, .ref bs), (1, .ref (h 0)), (2, .ref (gm 0)), (3, .ref ho), (4, .int (nI (4 * n)))] rfl ?_
    refine g_widen (k' := k + 1) (j' := j + 6) (by omega) (by omega) ?_
    exact KK _ _ _ hRE
  · refine g_if_ne 949 C dL_law_934 (by decide) (fun _ => ?_) (fun zz => absurd (heq.trans zz) (nI_ne0 (by omega) (by omega)))
    refine g_goto 1552 C dL_law_949 (by decide) ?_
    refine g_lv [2, 3, 4, 5, 6] [(0, .ref bs), (1, .ref (h 0)), (2, .ref (gm 0)), (3, .ref ho), (4, .int (nI (4 * n)))] rfl ?_
    refine g_widen (k' := k + 1) (j' := j + 6) (by omega) (by omega) ?_
    exact KK _ _ _ hRE
set_option maxRecDepth 100000 in
set_option maxHeartbeats 4000000 in
theorem lc_pass {p : Program} {l : Launch} {e : Env} {s : State} {m : MethodId} {args : Array Value} {below : List Frame} {meth : Method} {c : Code} {D : va_G} {cI cJ : ClassId} {A : Nat → Prop} {k j : Nat} {Q : State → Prop} {bs L n : Nat} {xs : Nat → Int32} {h gm : Nat → Nat} {ho : Nat} {σ τ : gS} {fo : Nat → Int64} {np nt no ni : Nat} (hst : l.stackTraces = false) (C : gC p s m args meth c cL_law 7 RL wsL_law D (tyIJ cI cJ) A) (hX : va_X bs L xs s s.heap) (hbl : bs < s.heap.size) (hbA : ¬ A bs) (hn : 4 * n + 3 < L) (hL : L ≤ 2048) (hk : k + 1 ≤ 1071 ∧ j + 6 ≤ 11110) (hR : RR σ τ np nt no ni) (KK : ∀ (σ' τ' : gS) (fo' : Nat → Int64), RE σ' τ' → G p l e room_1 s m args below meth c D A 7 (k + 1) (j + 6) Q (wW cI cJ h ho gm σ' fo' τ') [(0, .ref bs), (1, .ref (h 0)), (2, .ref (gm 0)), (3, .ref ho), (4, .int (nI (4 * n)))] 1552 []) : G p l e room_1 s m args below meth c D A 7 k j Q (wW cI cJ h ho gm σ fo τ) [(0, .ref bs), (1, .ref (h 0)), (2, .ref (gm 0)), (3, .ref ho), (4, .int (nI (4 * n)))] 952 [] := by
  have hop := op_pass hR (xs (4 * n + 1))
  obtain ⟨K, hK⟩ : ∃ K, K = th_pass σ (xs (4 * n + 1)) := ⟨_, rfl⟩
  obtain ⟨Km, hKm⟩ : ∃ K, K = tm_pass τ (xs (4 * n + 1)) := ⟨_, rfl⟩
  rw [← hK, ← hKm] at hop
  obtain ⟨hRE, hth⟩ := hop.next hR
  have hnK : nT K ≤ 1 := nT_le K
  have hKm3 : Km ≤ 3 := by
    rw [hKm]; unfold tm_pass
    repeat' split
    all_goals simp
  have heq : nI Km = nI (cdA K) := by
    rcases hop with ⟨h1, h2, -⟩ | ⟨h1, h2, h3⟩
    · rw [h1, h2]; rfl
    · rw [h3]
  refine g_aload_n 1 C rfl dL_law_952 rfl ?_
  refine g_aload_n 0 C rfl dL_law_953 rfl ?_
  refine g_iload 4 C rfl dL_law_954 ?_
  refine g_iconst 1 C dL_law_956 (by decide) ?_
  refine g_iaddN (4 * n) 1 C dL_law_957 ?_
  refine g_sldN (4 * n + 1) C hX hbl hbA (by omega) (by omega) dL_law_958 ?_
  refine g_aload_n 3 C rfl dL_law_959 rfl ?_
  refine g_callSH (na := 3) (av := [.ref (h 0), .int (xs (4 * n + 1)), .ref ho]) (c_w_pass l D cI cJ hst h σ np nt no ni hR.1 ho fo (xs (4 * n + 1)) K hK) C gL_law_L_pass rfl (by decide +kernel) rfl ⟨Nat.le_of_ble_eq_true rfl, Nat.le_of_ble_eq_true rfl⟩ rfl (Nat.le_of_ble_eq_true rfl) ⟨by show k + nT K ≤ 1071; omega, by show j + 6 * nT K ≤ 11110; omega⟩ dL_law_960 ?_
  refine g_istore [(5, .int (nI (cdA K))), (0, .ref bs), (1, .ref (h 0)), (2, .ref (gm 0)), (3, .ref ho), (4, .int (nI (4 * n)))] C dL_law_963 (by decide) rfl ?_
  refine g_aload_n 3 C rfl dL_law_965 rfl ?_
  refine g_aload_n 1 C rfl dL_law_966 rfl ?_
  refine g_iload 5 C rfl dL_law_967 ?_
  refine g_iconst 1 C dL_law_969 (by decide) ?_
  refine g_iaddN (4 * n) 1 C dL_law_970 ?_
  refine g_sldN (4 * n + 1) C hX hbl hbA (by omega) (by omega) dL_law_971 ?_
  refine g_callM (na := 1) (As := [.int (xs (4 * n + 1))]) (c_m_pass l D cI cJ gm τ np nt no ni hR.2.1 (xs (4 * n + 1)) Km hKm) C gL_law_X1_pass rfl (by decide +kernel) rfl ⟨Nat.le_of_ble_eq_true rfl, Nat.le_of_ble_eq_true rfl⟩ rfl (Nat.le_of_ble_eq_true rfl) ⟨by show k + nT K ≤ 1071; omega, by show j + 6 * nT K ≤ 11110; omega⟩ dL_law_972 ?_
  refine g_istore [(6, .int (mR Km ((pN (sS τ 0 0) ni (cl (xs (4 * n + 1)))).1 5))), (5, .int (nI (cdA K))), (0, .ref bs), (1, .ref (h 0)), (2, .ref (gm 0)), (3, .ref ho), (4, .int (nI (4 * n)))] C dL_law_975 (by decide) rfl ?_
  refine g_aload_n 4 C rfl dL_law_977 rfl ?_
  refine g_callM (na := 0) (As := []) (c_m_thrown l D cI cJ gm _) C gL_law_X1_thrown rfl (by decide +kernel) rfl ⟨Nat.le_of_ble_eq_true rfl, Nat.le_of_ble_eq_true rfl⟩ rfl (Nat.le_of_ble_eq_true rfl) ⟨by show k + nT K ≤ 1071; omega, by show j + 6 * nT K ≤ 11110; omega⟩ dL_law_978 ?_
  refine g_is (nI Km) hth ?_
  refine g_iload 1 C rfl dL_law_981 ?_
  refine g_icmp_eq 988 C dL_law_983 (by decide) (fun _ => ?_) (fun zz => absurd heq zz)
  refine g_iload 1 C rfl dL_law_988 ?_
  rcases hop with ⟨h1, h2, h3, h4, h5⟩ | ⟨h1, h2, h3⟩
  · subst h1; subst h2
    refine g_if_ne 1005 C dL_law_990 (by decide) (fun zz => absurd rfl zz) (fun _ => ?_)
    refine g_aload_n 5 C rfl dL_law_993 rfl ?_
    refine g_iconst 0 C dL_law_994 (by decide) ?_
    refine g_lald (cA := cJ) (n := 1) (a := ho) (f := kF 0 fo (σ.1 4 + (xs (4 * n + 1)))) 13 1 C rfl rfl (vp_in_nI (n := 0) (N := 1) (by decide) (by decide)) dL_law_995 ?_
    refine g_iload 0 C rfl dL_law_996 ?_
    refine g_i2l C dL_law_998 ?_
    refine g_lcmp C dL_law_999 ?_
    refine g_is 0 (by show lg_cmp (σ.1 4 + (xs (4 * n + 1)) : Int32).toInt64 ((pN (sS τ 0 0) ni (cl (xs (4 * n + 1)))).1 5 : Int32).toInt64 = 0; rw [h3]; exact lg_same _) ?_
    refine g_if_eq 1005 C dL_law_1000 (by decide) (fun _ => ?_) (fun zz => absurd rfl zz)
    refine g_goto 1552 C dL_law_1005 (by decide) ?_
    refine g_lv [2, 3, 4, 5, 6] [(0, .ref bs), (1, .ref (h 0)), (2, .ref (gm 0)), (3, .ref ho), (4, .int (nI (4 * n)))] rfl ?_
    refine g_widen (k' := k + 1) (j' := j + 6) (by omega) (by omega) ?_
    exact KK _ _ _ hRE
  · refine g_if_ne 1005 C dL_law_990 (by decide) (fun _ => ?_) (fun zz => absurd (heq.trans zz) (nI_ne0 (by omega) (by omega)))
    refine g_goto 1552 C dL_law_1005 (by decide) ?_
    refine g_lv [2, 3, 4, 5, 6] [(0, .ref bs), (1, .ref (h 0)), (2, .ref (gm 0)), (3, .ref ho), (4, .int (nI (4 * n)))] rfl ?_
    refine g_widen (k' := k + 1) (j' := j + 6) (by omega) (by omega) ?_
    exact KK _ _ _ hRE
set_option maxRecDepth 100000 in
set_option maxHeartbeats 4000000 in
theorem lc_left {p : Program} {l : Launch} {e : Env} {s : State} {m : MethodId} {args : Array Value} {below : List Frame} {meth : Method} {c : Code} {D : va_G} {cI cJ : ClassId} {A : Nat → Prop} {k j : Nat} {Q : State → Prop} {bs L n : Nat} {xs : Nat → Int32} {h gm : Nat → Nat} {ho : Nat} {σ τ : gS} {fo : Nat → Int64} {np nt no ni : Nat} (hst : l.stackTraces = false) (C : gC p s m args meth c cL_law 7 RL wsL_law D (tyIJ cI cJ) A) (hX : va_X bs L xs s s.heap) (hbl : bs < s.heap.size) (hbA : ¬ A bs) (hn : 4 * n + 3 < L) (hL : L ≤ 2048) (hk : k + 1 ≤ 1071 ∧ j + 6 ≤ 11110) (hR : RR σ τ np nt no ni) (KK : ∀ (σ' τ' : gS) (fo' : Nat → Int64), RE σ' τ' → G p l e room_1 s m args below meth c D A 7 (k + 1) (j + 6) Q (wW cI cJ h ho gm σ' fo' τ') [(0, .ref bs), (1, .ref (h 0)), (2, .ref (gm 0)), (3, .ref ho), (4, .int (nI (4 * n)))] 1552 []) : G p l e room_1 s m args below meth c D A 7 k j Q (wW cI cJ h ho gm σ fo τ) [(0, .ref bs), (1, .ref (h 0)), (2, .ref (gm 0)), (3, .ref ho), (4, .int (nI (4 * n)))] 1008 [] := by
  have hop := op_left hR (xs (4 * n + 1))
  obtain ⟨K, hK⟩ : ∃ K, K = th_left nt (xs (4 * n + 1)) := ⟨_, rfl⟩
  obtain ⟨Km, hKm⟩ : ∃ K, K = tm_left nt (xs (4 * n + 1)) := ⟨_, rfl⟩
  rw [← hK, ← hKm] at hop
  obtain ⟨hRE, hth⟩ := hop.next hR
  have hnK : nT K ≤ 1 := nT_le K
  have hKm3 : Km ≤ 3 := by
    rw [hKm]; unfold tm_left
    repeat' split
    all_goals simp
  have heq : nI Km = nI (cdI K) := by
    rcases hop with ⟨h1, h2, -⟩ | ⟨h1, h2, h3⟩
    · rw [h1, h2]; rfl
    · rw [h3]
  refine g_aload_n 1 C rfl dL_law_1008 rfl ?_
  refine g_aload_n 0 C rfl dL_law_1009 rfl ?_
  refine g_iload 4 C rfl dL_law_1010 ?_
  refine g_iconst 1 C dL_law_1012 (by decide) ?_
  refine g_iaddN (4 * n) 1 C dL_law_1013 ?_
  refine g_sldN (4 * n + 1) C hX hbl hbA (by omega) (by omega) dL_law_1014 ?_
  refine g_aload_n 3 C rfl dL_law_1015 rfl ?_
  refine g_callSH (na := 3) (av := [.ref (h 0), .int (xs (4 * n + 1)), .ref ho]) (c_w_left l D cI cJ hst h σ np nt no ni hR.1 ho fo (xs (4 * n + 1)) K hK) C gL_law_L_left rfl (by decide +kernel) rfl ⟨Nat.le_of_ble_eq_true rfl, Nat.le_of_ble_eq_true rfl⟩ rfl (Nat.le_of_ble_eq_true rfl) ⟨by show k + nT K ≤ 1071; omega, by show j + 6 * nT K ≤ 11110; omega⟩ dL_law_1016 ?_
  refine g_istore [(5, .int (nI (cdI K))), (0, .ref bs), (1, .ref (h 0)), (2, .ref (gm 0)), (3, .ref ho), (4, .int (nI (4 * n)))] C dL_law_1019 (by decide) rfl ?_
  refine g_aload_n 3 C rfl dL_law_1021 rfl ?_
  refine g_aload_n 1 C rfl dL_law_1022 rfl ?_
  refine g_iload 5 C rfl dL_law_1023 ?_
  refine g_iconst 1 C dL_law_1025 (by decide) ?_
  refine g_iaddN (4 * n) 1 C dL_law_1026 ?_
  refine g_sldN (4 * n + 1) C hX hbl hbA (by omega) (by omega) dL_law_1027 ?_
  refine g_callM (na := 1) (As := [.int (xs (4 * n + 1))]) (c_m_left l D cI cJ gm τ np nt no ni hR.2.1 (xs (4 * n + 1)) Km hKm) C gL_law_X1_left rfl (by decide +kernel) rfl ⟨Nat.le_of_ble_eq_true rfl, Nat.le_of_ble_eq_true rfl⟩ rfl (Nat.le_of_ble_eq_true rfl) ⟨by show k + nT K ≤ 1071; omega, by show j + 6 * nT K ≤ 11110; omega⟩ dL_law_1028 ?_
  refine g_istore [(6, .int (mR Km (τ.2 2 (cl (xs (4 * n + 1)))))), (5, .int (nI (cdI K))), (0, .ref bs), (1, .ref (h 0)), (2, .ref (gm 0)), (3, .ref ho), (4, .int (nI (4 * n)))] C dL_law_1031 (by decide) rfl ?_
  refine g_aload_n 4 C rfl dL_law_1033 rfl ?_
  refine g_callM (na := 0) (As := []) (c_m_thrown l D cI cJ gm _) C gL_law_X1_thrown rfl (by decide +kernel) rfl ⟨Nat.le_of_ble_eq_true rfl, Nat.le_of_ble_eq_true rfl⟩ rfl (Nat.le_of_ble_eq_true rfl) ⟨by show k + nT K ≤ 1071; omega, by show j + 6 * nT K ≤ 11110; omega⟩ dL_law_1034 ?_
  refine g_is (nI Km) hth ?_
  refine g_iload 1 C rfl dL_law_1037 ?_
  refine g_icmp_eq 1044 C dL_law_1039 (by decide) (fun _ => ?_) (fun zz => absurd heq zz)
  refine g_iload 1 C rfl dL_law_1044 ?_
  rcases hop with ⟨h1, h2, h3, h4, h5⟩ | ⟨h1, h2, h3⟩
  · subst h1; subst h2
    refine g_if_ne 1061 C dL_law_1046 (by decide) (fun zz => absurd rfl zz) (fun _ => ?_)
    refine g_aload_n 5 C rfl dL_law_1049 rfl ?_
    refine g_iconst 0 C dL_law_1050 (by decide) ?_
    refine g_lald (cA := cJ) (n := 1) (a := ho) (f := kF 0 fo (σ.2 2 (cl (xs (4 * n + 1))))) 13 1 C rfl rfl (vp_in_nI (n := 0) (N := 1) (by decide) (by decide)) dL_law_1051 ?_
    refine g_iload 0 C rfl dL_law_1052 ?_
    refine g_i2l C dL_law_1054 ?_
    refine g_lcmp C dL_law_1055 ?_
    refine g_is 0 (by show lg_cmp (σ.2 2 (cl (xs (4 * n + 1))) : Int32).toInt64 (τ.2 2 (cl (xs (4 * n + 1))) : Int32).toInt64 = 0; rw [h3]; exact lg_same _) ?_
    refine g_if_eq 1061 C dL_law_1056 (by decide) (fun _ => ?_) (fun zz => absurd rfl zz)
    refine g_goto 1552 C dL_law_1061 (by decide) ?_
    refine g_lv [2, 3, 4, 5, 6] [(0, .ref bs), (1, .ref (h 0)), (2, .ref (gm 0)), (3, .ref ho), (4, .int (nI (4 * n)))] rfl ?_
    refine g_widen (k' := k + 1) (j' := j + 6) (by omega) (by omega) ?_
    exact KK _ _ _ hRE
  · refine g_if_ne 1061 C dL_law_1046 (by decide) (fun _ => ?_) (fun zz => absurd (heq.trans zz) (nI_ne0 (by omega) (by omega)))
    refine g_goto 1552 C dL_law_1061 (by decide) ?_
    refine g_lv [2, 3, 4, 5, 6] [(0, .ref bs), (1, .ref (h 0)), (2, .ref (gm 0)), (3, .ref ho), (4, .int (nI (4 * n)))] rfl ?_
    refine g_widen (k' := k + 1) (j' := j + 6) (by omega) (by omega) ?_
    exact KK _ _ _ hRE
set_option maxRecDepth 100000 in
set_option maxHeartbeats 4000000 in
theorem lc_has {p : Program} {l : Launch} {e : Env} {s : State} {m : MethodId} {args : Array Value} {below : List Frame} {meth : Method} {c : Code} {D : va_G} {cI cJ : ClassId} {A : Nat → Prop} {k j : Nat} {Q : State → Prop} {bs L n : Nat} {xs : Nat → Int32} {h gm : Nat → Nat} {ho : Nat} {σ τ : gS} {fo : Nat → Int64} {np nt no ni : Nat} (hst : l.stackTraces = false) (C : gC p s m args meth c cL_law 7 RL wsL_law D (tyIJ cI cJ) A) (hX : va_X bs L xs s s.heap) (hbl : bs < s.heap.size) (hbA : ¬ A bs) (hn : 4 * n + 3 < L) (hL : L ≤ 2048) (hk : k + 1 ≤ 1071 ∧ j + 6 ≤ 11110) (hR : RR σ τ np nt no ni) (KK : ∀ (σ' τ' : gS) (fo' : Nat → Int64), RE σ' τ' → G p l e room_1 s m args below meth c D A 7 (k + 1) (j + 6) Q (wW cI cJ h ho gm σ' fo' τ') [(0, .ref bs), (1, .ref (h 0)), (2, .ref (gm 0)), (3, .ref ho), (4, .int (nI (4 * n)))] 1552 []) : G p l e room_1 s m args below meth c D A 7 k j Q (wW cI cJ h ho gm σ fo τ) [(0, .ref bs), (1, .ref (h 0)), (2, .ref (gm 0)), (3, .ref ho), (4, .int (nI (4 * n)))] 1064 [] := by
  have hop := op_has hR (xs (4 * n + 1)) (xs (4 * n + 2))
  obtain ⟨K, hK⟩ : ∃ K, K = th_has nt no (xs (4 * n + 1)) (xs (4 * n + 2)) := ⟨_, rfl⟩
  obtain ⟨Km, hKm⟩ : ∃ K, K = tm_has nt no (xs (4 * n + 1)) (xs (4 * n + 2)) := ⟨_, rfl⟩
  rw [← hK, ← hKm] at hop
  obtain ⟨hRE, hth⟩ := hop.next hR
  have hnK : nT K ≤ 1 := nT_le K
  have hKm3 : Km ≤ 3 := by
    rw [hKm]; unfold tm_has
    repeat' split
    all_goals simp
  have heq : nI Km = nI (cdI K) := by
    rcases hop with ⟨h1, h2, -⟩ | ⟨h1, h2, h3⟩
    · rw [h1, h2]; rfl
    · rw [h3]
  refine g_aload_n 1 C rfl dL_law_1064 rfl ?_
  refine g_aload_n 0 C rfl dL_law_1065 rfl ?_
  refine g_iload 4 C rfl dL_law_1066 ?_
  refine g_iconst 1 C dL_law_1068 (by decide) ?_
  refine g_iaddN (4 * n) 1 C dL_law_1069 ?_
  refine g_sldN (4 * n + 1) C hX hbl hbA (by omega) (by omega) dL_law_1070 ?_
  refine g_aload_n 0 C rfl dL_law_1071 rfl ?_
  refine g_iload 4 C rfl dL_law_1072 ?_
  refine g_iconst 2 C dL_law_1074 (by decide) ?_
  refine g_iaddN (4 * n) 2 C dL_law_1075 ?_
  refine g_sldN (4 * n + 2) C hX hbl hbA (by omega) (by omega) dL_law_1076 ?_
  refine g_aload_n 3 C rfl dL_law_1077 rfl ?_
  refine g_callSH (na := 4) (av := [.ref (h 0), .int (xs (4 * n + 1)), .int (xs (4 * n + 2)), .ref ho]) (c_w_has l D cI cJ hst h σ np nt no ni hR.1 ho fo (xs (4 * n + 1)) (xs (4 * n + 2)) K hK) C gL_law_L_has rfl (by decide +kernel) rfl ⟨Nat.le_of_ble_eq_true rfl, Nat.le_of_ble_eq_true rfl⟩ rfl (Nat.le_of_ble_eq_true rfl) ⟨by show k + nT K ≤ 1071; omega, by show j + 6 * nT K ≤ 11110; omega⟩ dL_law_1078 ?_
  refine g_istore [(5, .int (nI (cdI K))), (0, .ref bs), (1, .ref (h 0)), (2, .ref (gm 0)), (3, .ref ho), (4, .int (nI (4 * n)))] C dL_law_1081 (by decide) rfl ?_
  refine g_aload_n 3 C rfl dL_law_1083 rfl ?_
  refine g_aload_n 1 C rfl dL_law_1084 rfl ?_
  refine g_iload 5 C rfl dL_law_1085 ?_
  refine g_iconst 1 C dL_law_1087 (by decide) ?_
  refine g_iaddN (4 * n) 1 C dL_law_1088 ?_
  refine g_sldN (4 * n + 1) C hX hbl hbA (by omega) (by omega) dL_law_1089 ?_
  refine g_aload_n 1 C rfl dL_law_1090 rfl ?_
  refine g_iload 5 C rfl dL_law_1091 ?_
  refine g_iconst 2 C dL_law_1093 (by decide) ?_
  refine g_iaddN (4 * n) 2 C dL_law_1094 ?_
  refine g_sldN (4 * n + 2) C hX hbl hbA (by omega) (by omega) dL_law_1095 ?_
  refine g_callM (na := 2) (As := [.int (xs (4 * n + 1)), .int (xs (4 * n + 2))]) (c_m_has l D cI cJ gm τ np nt no ni hR.2.1 (xs (4 * n + 1)) (xs (4 * n + 2)) Km hKm) C gL_law_X1_has rfl (by decide +kernel) rfl ⟨Nat.le_of_ble_eq_true rfl, Nat.le_of_ble_eq_true rfl⟩ rfl (Nat.le_of_ble_eq_true rfl) ⟨by show k + nT K ≤ 1071; omega, by show j + 6 * nT K ≤ 11110; omega⟩ dL_law_1096 ?_
  refine g_istore [(6, .int (mR Km (rm_has τ (cl (xs (4 * n + 1))) (xs (4 * n + 2))))), (5, .int (nI (cdI K))), (0, .ref bs), (1, .ref (h 0)), (2, .ref (gm 0)), (3, .ref ho), (4, .int (nI (4 * n)))] C dL_law_1099 (by decide) rfl ?_
  refine g_aload_n 4 C rfl dL_law_1101 rfl ?_
  refine g_callM (na := 0) (As := []) (c_m_thrown l D cI cJ gm _) C gL_law_X1_thrown rfl (by decide +kernel) rfl ⟨Nat.le_of_ble_eq_true rfl, Nat.le_of_ble_eq_true rfl⟩ rfl (Nat.le_of_ble_eq_true rfl) ⟨by show k + nT K ≤ 1071; omega, by show j + 6 * nT K ≤ 11110; omega⟩ dL_law_1102 ?_
  refine g_is (nI Km) hth ?_
  refine g_iload 1 C rfl dL_law_1105 ?_
  refine g_icmp_eq 1112 C dL_law_1107 (by decide) (fun _ => ?_) (fun zz => absurd heq zz)
  refine g_iload 1 C rfl dL_law_1112 ?_
  rcases hop with ⟨h1, h2, h3, h4, h5⟩ | ⟨h1, h2, h3⟩
  · subst h1; subst h2
    refine g_if_ne 1129 C dL_law_1114 (by decide) (fun zz => absurd rfl zz) (fun _ => ?_)
    refine g_aload_n 5 C rfl dL_law_1117 rfl ?_
    refine g_iconst 0 C dL_law_1118 (by decide) ?_
    refine g_lald (cA := cJ) (n := 1) (a := ho) (f := kF 0 fo (r_has σ nt (cl (xs (4 * n + 1))) (xs (4 * n + 2)))) 13 1 C rfl rfl (vp_in_nI (n := 0) (N := 1) (by decide) (by decide)) dL_law_1119 ?_
    refine g_iload 0 C rfl dL_law_1120 ?_
    refine g_i2l C dL_law_1122 ?_
    refine g_lcmp C dL_law_1123 ?_
    refine g_is 0 (by show lg_cmp (r_has σ nt (cl (xs (4 * n + 1))) (xs (4 * n + 2)) : Int32).toInt64 (rm_has τ (cl (xs (4 * n + 1))) (xs (4 * n + 2)) : Int32).toInt64 = 0; rw [h3]; exact lg_same _) ?_
    refine g_if_eq 1129 C dL_law_1124 (by decide) (fun _ => ?_) (fun zz => absurd rfl zz)
    refine g_goto 1552 C dL_law_1129 (by decide) ?_
    refine g_lv [2, 3, 4, 5, 6] [(0, .ref bs), (1, .ref (h 0)), (2, .ref (gm 0)), (3, .ref ho), (4, .int (nI (4 * n)))] rfl ?_
    refine g_widen (k' := k + 1) (j' := j + 6) (by omega) (by omega) ?_
    exact KK _ _ _ hRE
  · refine g_if_ne 1129 C dL_law_1114 (by decide) (fun _ => ?_) (fun zz => absurd (heq.trans zz) (nI_ne0 (by omega) (by omega)))
    refine g_goto 1552 C dL_law_1129 (by decide) ?_
    refine g_lv [2, 3, 4, 5, 6] [(0, .ref bs), (1, .ref (h 0)), (2, .ref (gm 0)), (3, .ref ho), (4, .int (nI (4 * n)))] rfl ?_
    refine g_widen (k' := k + 1) (j' := j + 6) (by omega) (by omega) ?_
    exact KK _ _ _ hRE
set_option maxRecDepth 100000 in
set_option maxHeartbeats 4000000 in
theorem lc_colour {p : Program} {l : Launch} {e : Env} {s : State} {m : MethodId} {args : Array Value} {below : List Frame} {meth : Method} {c : Code} {D : va_G} {cI cJ : ClassId} {A : Nat → Prop} {k j : Nat} {Q : State → Prop} {bs L n : Nat} {xs : Nat → Int32} {h gm : Nat → Nat} {ho : Nat} {σ τ : gS} {fo : Nat → Int64} {np nt no ni : Nat} (hst : l.stackTraces = false) (C : gC p s m args meth c cL_law 7 RL wsL_law D (tyIJ cI cJ) A) (hX : va_X bs L xs s s.heap) (hbl : bs < s.heap.size) (hbA : ¬ A bs) (hn : 4 * n + 3 < L) (hL : L ≤ 2048) (hk : k + 1 ≤ 1071 ∧ j + 6 ≤ 11110) (hR : RR σ τ np nt no ni) (KK : ∀ (σ' τ' : gS) (fo' : Nat → Int64), RE σ' τ' → G p l e room_1 s m args below meth c D A 7 (k + 1) (j + 6) Q (wW cI cJ h ho gm σ' fo' τ') [(0, .ref bs), (1, .ref (h 0)), (2, .ref (gm 0)), (3, .ref ho), (4, .int (nI (4 * n)))] 1552 []) : G p l e room_1 s m args below meth c D A 7 k j Q (wW cI cJ h ho gm σ fo τ) [(0, .ref bs), (1, .ref (h 0)), (2, .ref (gm 0)), (3, .ref ho), (4, .int (nI (4 * n)))] 1132 [] := by
  have hop := op_colour hR (xs (4 * n + 1)) (xs (4 * n + 2))
  obtain ⟨K, hK⟩ : ∃ K, K = th_colour no (xs (4 * n + 1)) (xs (4 * n + 2)) := ⟨_, rfl⟩
  obtain ⟨Km, hKm⟩ : ∃ K, K = tm_colour no (xs (4 * n + 1)) (xs (4 * n + 2)) := ⟨_, rfl⟩
  rw [← hK, ← hKm] at hop
  obtain ⟨hRE, hth⟩ := hop.next hR
  have hnK : nT K ≤ 1 := nT_le K
  have hKm3 : Km ≤ 3 := by
    rw [hKm]; unfold tm_colour
    repeat' split
    all_goals simp
  have heq : nI Km = nI (cdI K) := by
    rcases hop with ⟨h1, h2, -⟩ | ⟨h1, h2, h3⟩
    · rw [h1, h2]; rfl
    · rw [h3]
  refine g_aload_n 1 C rfl dL_law_1132 rfl ?_
  refine g_aload_n 0 C rfl dL_law_1133 rfl ?_
  refine g_iload 4 C rfl dL_law_1134 ?_
  refine g_iconst 1 C dL_law_1136 (by decide) ?_
  refine g_iaddN (4 * n) 1 C dL_law_1137 ?_
  refine g_sldN (4 * n + 1) C hX hbl hbA (by omega) (by omega) dL_law_1138 ?_
  refine g_aload_n 0 C rfl dL_law_1139 rfl ?_
  refine g_iload 4 C rfl dL_law_1140 ?_
  refine g_iconst 2 C dL_law_1142 (by decide) ?_
  refine g_iaddN (4 * n) 2 C dL_law_1143 ?_
  refine g_sldN (4 * n + 2) C hX hbl hbA (by omega) (by omega) dL_law_1144 ?_
  refine g_aload_n 3 C rfl dL_law_1145 rfl ?_
  refine g_callSH (na := 4) (av := [.ref (h 0), .int (xs (4 * n + 1)), .int (xs (4 * n + 2)), .ref ho]) (c_w_colour l D cI cJ hst h σ np nt no ni hR.1 ho fo (xs (4 * n + 1)) (xs (4 * n + 2)) K hK) C gL_law_L_colour rfl (by decide +kernel) rfl ⟨Nat.le_of_ble_eq_true rfl, Nat.le_of_ble_eq_true rfl⟩ rfl (Nat.le_of_ble_eq_true rfl) ⟨by show k + nT K ≤ 1071; omega, by show j + 6 * nT K ≤ 11110; omega⟩ dL_law_1146 ?_
  refine g_istore [(5, .int (nI (cdI K))), (0, .ref bs), (1, .ref (h 0)), (2, .ref (gm 0)), (3, .ref ho), (4, .int (nI (4 * n)))] C dL_law_1149 (by decide) rfl ?_
  refine g_aload_n 3 C rfl dL_law_1151 rfl ?_
  refine g_aload_n 1 C rfl dL_law_1152 rfl ?_
  refine g_iload 5 C rfl dL_law_1153 ?_
  refine g_iconst 1 C dL_law_1155 (by decide) ?_
  refine g_iaddN (4 * n) 1 C dL_law_1156 ?_
  refine g_sldN (4 * n + 1) C hX hbl hbA (by omega) (by omega) dL_law_1157 ?_
  refine g_aload_n 1 C rfl dL_law_1158 rfl ?_
  refine g_iload 5 C rfl dL_law_1159 ?_
  refine g_iconst 2 C dL_law_1161 (by decide) ?_
  refine g_iaddN (4 * n) 2 C dL_law_1162 ?_
  refine g_sldN (4 * n + 2) C hX hbl hbA (by omega) (by omega) dL_law_1163 ?_
  refine g_callM (na := 2) (As := [.int (xs (4 * n + 1)), .int (xs (4 * n + 2))]) (c_m_colour l D cI cJ gm τ np nt no ni hR.2.1 (xs (4 * n + 1)) (xs (4 * n + 2)) Km hKm) C gL_law_X1_colour rfl (by decide +kernel) rfl ⟨Nat.le_of_ble_eq_true rfl, Nat.le_of_ble_eq_true rfl⟩ rfl (Nat.le_of_ble_eq_true rfl) ⟨by show k + nT K ≤ 1071; omega, by show j + 6 * nT K ≤ 11110; omega⟩ dL_law_1164 ?_
  refine g_istore [(6, .int (mR Km (rm_colour τ nt (cl (xs (4 * n + 1))) (cl (xs (4 * n + 2)))))), (5, .int (nI (cdI K))), (0, .ref bs), (1, .ref (h 0)), (2, .ref (gm 0)), (3, .ref ho), (4, .int (nI (4 * n)))] C dL_law_1167 (by decide) rfl ?_
  refine g_aload_n 4 C rfl dL_law_1169 rfl ?_
  refine g_callM (na := 0) (As := []) (c_m_thrown l D cI cJ gm _) C gL_law_X1_thrown rfl (by decide +kernel) rfl ⟨Nat.le_of_ble_eq_true rfl, Nat.le_of_ble_eq_true rfl⟩ rfl (Nat.le_of_ble_eq_true rfl) ⟨by show k + nT K ≤ 1071; omega, by show j + 6 * nT K ≤ 11110; omega⟩ dL_law_1170 ?_
  refine g_is (nI Km) hth ?_
  refine g_iload 1 C rfl dL_law_1173 ?_
  refine g_icmp_eq 1180 C dL_law_1175 (by decide) (fun _ => ?_) (fun zz => absurd heq zz)
  refine g_iload 1 C rfl dL_law_1180 ?_
  rcases hop with ⟨h1, h2, h3, h4, h5⟩ | ⟨h1, h2, h3⟩
  · subst h1; subst h2
    refine g_if_ne 1197 C dL_law_1182 (by decide) (fun zz => absurd rfl zz) (fun _ => ?_)
    refine g_aload_n 5 C rfl dL_law_1185 rfl ?_
    refine g_iconst 0 C dL_law_1186 (by decide) ?_
    refine g_lald (cA := cJ) (n := 1) (a := ho) (f := kF 0 fo (colR σ nt (cl (xs (4 * n + 1))) (cl (xs (4 * n + 2))))) 13 1 C rfl rfl (vp_in_nI (n := 0) (N := 1) (by decide) (by decide)) dL_law_1187 ?_
    refine g_iload 0 C rfl dL_law_1188 ?_
    refine g_i2l C dL_law_1190 ?_
    refine g_lcmp C dL_law_1191 ?_
    refine g_is 0 (by show lg_cmp (colR σ nt (cl (xs (4 * n + 1))) (cl (xs (4 * n + 2))) : Int32).toInt64 (rm_colour τ nt (cl (xs (4 * n + 1))) (cl (xs (4 * n + 2))) : Int32).toInt64 = 0; rw [h3]; exact lg_same _) ?_
    refine g_if_eq 1197 C dL_law_1192 (by decide) (fun _ => ?_) (fun zz => absurd rfl zz)
    refine g_goto 1552 C dL_law_1197 (by decide) ?_
    refine g_lv [2, 3, 4, 5, 6] [(0, .ref bs), (1, .ref (h 0)), (2, .ref (gm 0)), (3, .ref ho), (4, .int (nI (4 * n)))] rfl ?_
    refine g_widen (k' := k + 1) (j' := j + 6) (by omega) (by omega) ?_
    exact KK _ _ _ hRE
  · refine g_if_ne 1197 C dL_law_1182 (by decide) (fun _ => ?_) (fun zz => absurd (heq.trans zz) (nI_ne0 (by omega) (by omega)))
    refine g_goto 1552 C dL_law_1197 (by decide) ?_
    refine g_lv [2, 3, 4, 5, 6] [(0, .ref bs), (1, .ref (h 0)), (2, .ref (gm 0)), (3, .ref ho), (4, .int (nI (4 * n)))] rfl ?_
    refine g_widen (k' := k + 1) (j' := j + 6) (by omega) (by omega) ?_
    exact KK _ _ _ hRE
set_option maxRecDepth 100000 in
set_option maxHeartbeats 4000000 in
theorem lc_of {p : Program} {l : Launch} {e : Env} {s : State} {m : MethodId} {args : Array Value} {below : List Frame} {meth : Method} {c : Code} {D : va_G} {cI cJ : ClassId} {A : Nat → Prop} {k j : Nat} {Q : State → Prop} {bs L n : Nat} {xs : Nat → Int32} {h gm : Nat → Nat} {ho : Nat} {σ τ : gS} {fo : Nat → Int64} {np nt no ni : Nat} (hst : l.stackTraces = false) (C : gC p s m args meth c cL_law 7 RL wsL_law D (tyIJ cI cJ) A) (hX : va_X bs L xs s s.heap) (hbl : bs < s.heap.size) (hbA : ¬ A bs) (hn : 4 * n + 3 < L) (hL : L ≤ 2048) (hk : k + 1 ≤ 1071 ∧ j + 6 ≤ 11110) (hR : RR σ τ np nt no ni) (KK : ∀ (σ' τ' : gS) (fo' : Nat → Int64), RE σ' τ' → G p l e room_1 s m args below meth c D A 7 (k + 1) (j + 6) Q (wW cI cJ h ho gm σ' fo' τ') [(0, .ref bs), (1, .ref (h 0)), (2, .ref (gm 0)), (3, .ref ho), (4, .int (nI (4 * n)))] 1552 []) : G p l e room_1 s m args below meth c D A 7 k j Q (wW cI cJ h ho gm σ fo τ) [(0, .ref bs), (1, .ref (h 0)), (2, .ref (gm 0)), (3, .ref ho), (4, .int (nI (4 * n)))] 1200 [] := by
  have hop := op_of hR (xs (4 * n + 1)) (xs (4 * n + 2))
  obtain ⟨K, hK⟩ : ∃ K, K = th_of ni (xs (4 * n + 1)) (xs (4 * n + 2)) := ⟨_, rfl⟩
  obtain ⟨Km, hKm⟩ : ∃ K, K = tm_of ni (xs (4 * n + 1)) (xs (4 * n + 2)) := ⟨_, rfl⟩
  rw [← hK, ← hKm] at hop
  obtain ⟨hRE, hth⟩ := hop.next hR
  have hnK : nT K ≤ 1 := nT_le K
  have hKm3 : Km ≤ 3 := by
    rw [hKm]; unfold tm_of
    repeat' split
    all_goals simp
  have heq : nI Km = nI (cdI K) := by
    rcases hop with ⟨h1, h2, -⟩ | ⟨h1, h2, h3⟩
    · rw [h1, h2]; rfl
    · rw [h3]
  refine g_aload_n 1 C rfl dL_law_1200 rfl ?_
  refine g_aload_n 0 C rfl dL_law_1201 rfl ?_
  refine g_iload 4 C rfl dL_law_1202 ?_
  refine g_iconst 1 C dL_law_1204 (by decide) ?_
  refine g_iaddN (4 * n) 1 C dL_law_1205 ?_
  refine g_sldN (4 * n + 1) C hX hbl hbA (by omega) (by omega) dL_law_1206 ?_
  refine g_aload_n 0 C rfl dL_law_1207 rfl ?_
  refine g_iload 4 C rfl dL_law_1208 ?_
  refine g_iconst 2 C dL_law_1210 (by decide) ?_
  refine g_iaddN (4 * n) 2 C dL_law_1211 ?_
  refine g_sldN (4 * n + 2) C hX hbl hbA (by omega) (by omega) dL_law_1212 ?_
  refine g_aload_n 3 C rfl dL_law_1213 rfl ?_
  refine g_callSH (na := 4) (av := [.ref (h 0), .int (xs (4 * n + 1)), .int (xs (4 * n + 2)), .ref ho]) (c_w_of l D cI cJ hst h σ np nt no ni hR.1 ho fo (xs (4 * n + 1)) (xs (4 * n + 2)) K hK) C gL_law_L_of rfl (by decide +kernel) rfl ⟨Nat.le_of_ble_eq_true rfl, Nat.le_of_ble_eq_true rfl⟩ rfl (Nat.le_of_ble_eq_true rfl) ⟨by show k + nT K ≤ 1071; omega, by show j + 6 * nT K ≤ 11110; omega⟩ dL_law_1214 ?_
  refine g_istore [(5, .int (nI (cdI K))), (0, .ref bs), (1, .ref (h 0)), (2, .ref (gm 0)), (3, .ref ho), (4, .int (nI (4 * n)))] C dL_law_1217 (by decide) rfl ?_
  refine g_aload_n 3 C rfl dL_law_1219 rfl ?_
  refine g_aload_n 1 C rfl dL_law_1220 rfl ?_
  refine g_iload 5 C rfl dL_law_1221 ?_
  refine g_iconst 1 C dL_law_1223 (by decide) ?_
  refine g_iaddN (4 * n) 1 C dL_law_1224 ?_
  refine g_sldN (4 * n + 1) C hX hbl hbA (by omega) (by omega) dL_law_1225 ?_
  refine g_aload_n 1 C rfl dL_law_1226 rfl ?_
  refine g_iload 5 C rfl dL_law_1227 ?_
  refine g_iconst 2 C dL_law_1229 (by decide) ?_
  refine g_iaddN (4 * n) 2 C dL_law_1230 ?_
  refine g_sldN (4 * n + 2) C hX hbl hbA (by omega) (by omega) dL_law_1231 ?_
  refine g_callM (na := 2) (As := [.int (xs (4 * n + 1)), .int (xs (4 * n + 2))]) (c_m_of l D cI cJ gm τ np nt no ni hR.2.1 (hz_of hR) (xs (4 * n + 1)) (xs (4 * n + 2)) Km hKm) C gL_law_X1_of rfl (by decide +kernel) rfl ⟨Nat.le_of_ble_eq_true rfl, Nat.le_of_ble_eq_true rfl⟩ rfl (Nat.le_of_ble_eq_true rfl) ⟨by show k + nT K ≤ 1071; omega, by show j + 6 * nT K ≤ 11110; omega⟩ dL_law_1232 ?_
  refine g_istore [(6, .int (mR Km (rm_of (sS τ 0 0) nt ni (cl (xs (4 * n + 1))) (cl (xs (4 * n + 2)))))), (5, .int (nI (cdI K))), (0, .ref bs), (1, .ref (h 0)), (2, .ref (gm 0)), (3, .ref ho), (4, .int (nI (4 * n)))] C dL_law_1235 (by decide) rfl ?_
  refine g_aload_n 4 C rfl dL_law_1237 rfl ?_
  refine g_callM (na := 0) (As := []) (c_m_thrown l D cI cJ gm _) C gL_law_X1_thrown rfl (by decide +kernel) rfl ⟨Nat.le_of_ble_eq_true rfl, Nat.le_of_ble_eq_true rfl⟩ rfl (Nat.le_of_ble_eq_true rfl) ⟨by show k + nT K ≤ 1071; omega, by show j + 6 * nT K ≤ 11110; omega⟩ dL_law_1238 ?_
  refine g_is (nI Km) hth ?_
  refine g_iload 1 C rfl dL_law_1241 ?_
  refine g_icmp_eq 1248 C dL_law_1243 (by decide) (fun _ => ?_) (fun zz => absurd heq zz)
  refine g_iload 1 C rfl dL_law_1248 ?_
  rcases hop with ⟨h1, h2, h3, h4, h5⟩ | ⟨h1, h2, h3⟩
  · subst h1; subst h2
    refine g_if_ne 1265 C dL_law_1250 (by decide) (fun zz => absurd rfl zz) (fun _ => ?_)
    refine g_aload_n 5 C rfl dL_law_1253 rfl ?_
    refine g_iconst 0 C dL_law_1254 (by decide) ?_
    refine g_lald (cA := cJ) (n := 1) (a := ho) (f := kF 0 fo (r_of σ np nt ni (cl (xs (4 * n + 1))) (cl (xs (4 * n + 2))))) 13 1 C rfl rfl (vp_in_nI (n := 0) (N := 1) (by decide) (by decide)) dL_law_1255 ?_
    refine g_iload 0 C rfl dL_law_1256 ?_
    refine g_i2l C dL_law_1258 ?_
    refine g_lcmp C dL_law_1259 ?_
    refine g_is 0 (by show lg_cmp (r_of σ np nt ni (cl (xs (4 * n + 1))) (cl (xs (4 * n + 2))) : Int32).toInt64 (rm_of (sS τ 0 0) nt ni (cl (xs (4 * n + 1))) (cl (xs (4 * n + 2))) : Int32).toInt64 = 0; rw [h3]; exact lg_same _) ?_
    refine g_if_eq 1265 C dL_law_1260 (by decide) (fun _ => ?_) (fun zz => absurd rfl zz)
    refine g_goto 1552 C dL_law_1265 (by decide) ?_
    refine g_lv [2, 3, 4, 5, 6] [(0, .ref bs), (1, .ref (h 0)), (2, .ref (gm 0)), (3, .ref ho), (4, .int (nI (4 * n)))] rfl ?_
    refine g_widen (k' := k + 1) (j' := j + 6) (by omega) (by omega) ?_
    exact KK _ _ _ hRE
  · refine g_if_ne 1265 C dL_law_1250 (by decide) (fun _ => ?_) (fun zz => absurd (heq.trans zz) (nI_ne0 (by omega) (by omega)))
    refine g_goto 1552 C dL_law_1265 (by decide) ?_
    refine g_lv [2, 3, 4, 5, 6] [(0, .ref bs), (1, .ref (h 0)), (2, .ref (gm 0)), (3, .ref ho), (4, .int (nI (4 * n)))] rfl ?_
    refine g_widen (k' := k + 1) (j' := j + 6) (by omega) (by omega) ?_
    exact KK _ _ _ hRE
set_option maxRecDepth 100000 in
set_option maxHeartbeats 4000000 in
theorem lc_layer {p : Program} {l : Launch} {e : Env} {s : State} {m : MethodId} {args : Array Value} {below : List Frame} {meth : Method} {c : Code} {D : va_G} {cI cJ : ClassId} {A : Nat → Prop} {k j : Nat} {Q : State → Prop} {bs L n : Nat} {xs : Nat → Int32} {h gm : Nat → Nat} {ho : Nat} {σ τ : gS} {fo : Nat → Int64} {np nt no ni : Nat} (hst : l.stackTraces = false) (C : gC p s m args meth c cL_law 7 RL wsL_law D (tyIJ cI cJ) A) (hX : va_X bs L xs s s.heap) (hbl : bs < s.heap.size) (hbA : ¬ A bs) (hn : 4 * n + 3 < L) (hL : L ≤ 2048) (hk : k + 1 ≤ 1071 ∧ j + 6 ≤ 11110) (hR : RR σ τ np nt no ni) (KK : ∀ (σ' τ' : gS) (fo' : Nat → Int64), RE σ' τ' → G p l e room_1 s m args below meth c D A 7 (k + 1) (j + 6) Q (wW cI cJ h ho gm σ' fo' τ') [(0, .ref bs), (1, .ref (h 0)), (2, .ref (gm 0)), (3, .ref ho), (4, .int (nI (4 * n)))] 1552 []) : G p l e room_1 s m args below meth c D A 7 k j Q (wW cI cJ h ho gm σ fo τ) [(0, .ref bs), (1, .ref (h 0)), (2, .ref (gm 0)), (3, .ref ho), (4, .int (nI (4 * n)))] 1268 [] := by
  have hop := op_layer hR (xs (4 * n + 1)) (xs (4 * n + 2)) (xs (4 * n + 3))
  obtain ⟨K, hK⟩ : ∃ K, K = th_layer σ nt ni (xs (4 * n + 1)) (xs (4 * n + 2)) (xs (4 * n + 3)) := ⟨_, rfl⟩
  obtain ⟨Km, hKm⟩ : ∃ K, K = tm_layer τ nt ni (xs (4 * n + 1)) (xs (4 * n + 2)) (xs (4 * n + 3)) := ⟨_, rfl⟩
  rw [← hK, ← hKm] at hop
  obtain ⟨hRE, hth⟩ := hop.next hR
  have hnK : nT K ≤ 1 := nT_le K
  have hKm3 : Km ≤ 3 := by
    rw [hKm]; unfold tm_layer
    repeat' split
    all_goals simp
  have heq : nI Km = nI (cdI K) := by
    rcases hop with ⟨h1, h2, -⟩ | ⟨h1, h2, h3⟩
    · rw [h1, h2]; rfl
    · rw [h3]
  refine g_aload_n 1 C rfl dL_law_1268 rfl ?_
  refine g_aload_n 0 C rfl dL_law_1269 rfl ?_
  refine g_iload 4 C rfl dL_law_1270 ?_
  refine g_iconst 1 C dL_law_1272 (by decide) ?_
  refine g_iaddN (4 * n) 1 C dL_law_1273 ?_
  refine g_sldN (4 * n + 1) C hX hbl hbA (by omega) (by omega) dL_law_1274 ?_
  refine g_aload_n 0 C rfl dL_law_1275 rfl ?_
  refine g_iload 4 C rfl dL_law_1276 ?_
  refine g_iconst 2 C dL_law_1278 (by decide) ?_
  refine g_iaddN (4 * n) 2 C dL_law_1279 ?_
  refine g_sldN (4 * n + 2) C hX hbl hbA (by omega) (by omega) dL_law_1280 ?_
  refine g_aload_n 0 C rfl dL_law_1281 rfl ?_
  refine g_iload 4 C rfl dL_law_1282 ?_
  refine g_iconst 3 C dL_law_1284 (by decide) ?_
  refine g_iaddN (4 * n) 3 C dL_law_1285 ?_
  refine g_sldN (4 * n + 3) C hX hbl hbA (by omega) (by omega) dL_law_1286 ?_
  refine g_aload_n 3 C rfl dL_law_1287 rfl ?_
  refine g_callSH (na := 5) (av := [.ref (h 0), .int (xs (4 * n + 1)), .int (xs (4 * n + 2)), .int (xs (4 * n + 3)), .ref ho]) (c_w_layer l D cI cJ hst h σ np nt no ni hR.1 ho fo (xs (4 * n + 1)) (xs (4 * n + 2)) (xs (4 * n + 3)) K hK) C gL_law_L_layer rfl (by decide +kernel) rfl ⟨Nat.le_of_ble_eq_true rfl, Nat.le_of_ble_eq_true rfl⟩ rfl (Nat.le_of_ble_eq_true rfl) ⟨by show k + nT K ≤ 1071; omega, by show j + 6 * nT K ≤ 11110; omega⟩ dL_law_1288 ?_
  refine g_istore [(5, .int (nI (cdI K))), (0, .ref bs), (1, .ref (h 0)), (2, .ref (gm 0)), (3, .ref ho), (4, .int (nI (4 * n)))] C dL_law_1291 (by decide) rfl ?_
  refine g_aload_n 3 C rfl dL_law_1293 rfl ?_
  refine g_aload_n 1 C rfl dL_law_1294 rfl ?_
  refine g_iload 5 C rfl dL_law_1295 ?_
  refine g_iconst 1 C dL_law_1297 (by decide) ?_
  refine g_iaddN (4 * n) 1 C dL_law_1298 ?_
  refine g_sldN (4 * n + 1) C hX hbl hbA (by omega) (by omega) dL_law_1299 ?_
  refine g_aload_n 1 C rfl dL_law_1300 rfl ?_
  refine g_iload 5 C rfl dL_law_1301 ?_
  refine g_iconst 2 C dL_law_1303 (by decide) ?_
  refine g_iaddN (4 * n) 2 C dL_law_1304 ?_
  refine g_sldN (4 * n + 2) C hX hbl hbA (by omega) (by omega) dL_law_1305 ?_
  refine g_aload_n 1 C rfl dL_law_1306 rfl ?_
  refine g_iload 5 C rfl dL_law_1307 ?_
  refine g_iconst 3 C dL_law_1309 (by decide) ?_
  refine g_iaddN (4 * n) 3 C dL_law_1310 ?_
  refine g_sldN (4 * n + 3) C hX hbl hbA (by omega) (by omega) dL_law_1311 ?_
  refine g_callM (na := 3) (As := [.int (xs (4 * n + 1)), .int (xs (4 * n + 2)), .int (xs (4 * n + 3))]) (c_m_layer l D cI cJ gm τ np nt no ni hR.2.1 (xs (4 * n + 1)) (xs (4 * n + 2)) (xs (4 * n + 3)) Km hKm) C gL_law_X1_layer rfl (by decide +kernel) rfl ⟨Nat.le_of_ble_eq_true rfl, Nat.le_of_ble_eq_true rfl⟩ rfl (Nat.le_of_ble_eq_true rfl) ⟨by show k + nT K ≤ 1071; omega, by show j + 6 * nT K ≤ 11110; omega⟩ dL_law_1312 ?_
  refine g_istore [(6, .int (mR Km (τ.2 6 (12 * (12 * cl (xs (4 * n + 1)) + cl (xs (4 * n + 2))) + cl (xs (4 * n + 3)))))), (5, .int (nI (cdI K))), (0, .ref bs), (1, .ref (h 0)), (2, .ref (gm 0)), (3, .ref ho), (4, .int (nI (4 * n)))] C dL_law_1315 (by decide) rfl ?_
  refine g_aload_n 4 C rfl dL_law_1317 rfl ?_
  refine g_callM (na := 0) (As := []) (c_m_thrown l D cI cJ gm _) C gL_law_X1_thrown rfl (by decide +kernel) rfl ⟨Nat.le_of_ble_eq_true rfl, Nat.le_of_ble_eq_true rfl⟩ rfl (Nat.le_of_ble_eq_true rfl) ⟨by show k + nT K ≤ 1071; omega, by show j + 6 * nT K ≤ 11110; omega⟩ dL_law_1318 ?_
  refine g_is (nI Km) hth ?_
  refine g_iload 1 C rfl dL_law_1321 ?_
  refine g_icmp_eq 1328 C dL_law_1323 (by decide) (fun _ => ?_) (fun zz => absurd heq zz)
  refine g_iload 1 C rfl dL_law_1328 ?_
  rcases hop with ⟨h1, h2, h3, h4, h5⟩ | ⟨h1, h2, h3⟩
  · subst h1; subst h2
    refine g_if_ne 1345 C dL_law_1330 (by decide) (fun zz => absurd rfl zz) (fun _ => ?_)
    refine g_aload_n 5 C rfl dL_law_1333 rfl ?_
    refine g_iconst 0 C dL_law_1334 (by decide) ?_
    refine g_lald (cA := cJ) (n := 1) (a := ho) (f := kF 0 fo (σ.2 3 ((10 + cl (xs (4 * n + 1)) * 12 + cl (xs (4 * n + 2))) * 12 + cl (xs (4 * n + 3))))) 13 1 C rfl rfl (vp_in_nI (n := 0) (N := 1) (by decide) (by decide)) dL_law_1335 ?_
    refine g_iload 0 C rfl dL_law_1336 ?_
    refine g_i2l C dL_law_1338 ?_
    refine g_lcmp C dL_law_1339 ?_
    refine g_is 0 (by show lg_cmp (σ.2 3 ((10 + cl (xs (4 * n + 1)) * 12 + cl (xs (4 * n + 2))) * 12 + cl (xs (4 * n + 3))) : Int32).toInt64 (τ.2 6 (12 * (12 * cl (xs (4 * n + 1)) + cl (xs (4 * n + 2))) + cl (xs (4 * n + 3))) : Int32).toInt64 = 0; rw [h3]; exact lg_same _) ?_
    refine g_if_eq 1345 C dL_law_1340 (by decide) (fun _ => ?_) (fun zz => absurd rfl zz)
    refine g_goto 1552 C dL_law_1345 (by decide) ?_
    refine g_lv [2, 3, 4, 5, 6] [(0, .ref bs), (1, .ref (h 0)), (2, .ref (gm 0)), (3, .ref ho), (4, .int (nI (4 * n)))] rfl ?_
    refine g_widen (k' := k + 1) (j' := j + 6) (by omega) (by omega) ?_
    exact KK _ _ _ hRE
  · refine g_if_ne 1345 C dL_law_1330 (by decide) (fun _ => ?_) (fun zz => absurd (heq.trans zz) (nI_ne0 (by omega) (by omega)))
    refine g_goto 1552 C dL_law_1345 (by decide) ?_
    refine g_lv [2, 3, 4, 5, 6] [(0, .ref bs), (1, .ref (h 0)), (2, .ref (gm 0)), (3, .ref ho), (4, .int (nI (4 * n)))] rfl ?_
    refine g_widen (k' := k + 1) (j' := j + 6) (by omega) (by omega) ?_
    exact KK _ _ _ hRE
set_option maxRecDepth 100000 in
set_option maxHeartbeats 4000000 in
theorem lc_where {p : Program} {l : Launch} {e : Env} {s : State} {m : MethodId} {args : Array Value} {below : List Frame} {meth : Method} {c : Code} {D : va_G} {cI cJ : ClassId} {A : Nat → Prop} {k j : Nat} {Q : State → Prop} {bs L n : Nat} {xs : Nat → Int32} {h gm : Nat → Nat} {ho : Nat} {σ τ : gS} {fo : Nat → Int64} {np nt no ni : Nat} (hst : l.stackTraces = false) (C : gC p s m args meth c cL_law 7 RL wsL_law D (tyIJ cI cJ) A) (hX : va_X bs L xs s s.heap) (hbl : bs < s.heap.size) (hbA : ¬ A bs) (hn : 4 * n + 3 < L) (hL : L ≤ 2048) (hk : k + 1 ≤ 1071 ∧ j + 6 ≤ 11110) (hR : RR σ τ np nt no ni) (KK : ∀ (σ' τ' : gS) (fo' : Nat → Int64), RE σ' τ' → G p l e room_1 s m args below meth c D A 7 (k + 1) (j + 6) Q (wW cI cJ h ho gm σ' fo' τ') [(0, .ref bs), (1, .ref (h 0)), (2, .ref (gm 0)), (3, .ref ho), (4, .int (nI (4 * n)))] 1552 []) : G p l e room_1 s m args below meth c D A 7 k j Q (wW cI cJ h ho gm σ fo τ) [(0, .ref bs), (1, .ref (h 0)), (2, .ref (gm 0)), (3, .ref ho), (4, .int (nI (4 * n)))] 1348 [] := by
  have hop := op_where hR (xs (4 * n + 1)) (xs (4 * n + 2))
  obtain ⟨K, hK⟩ : ∃ K, K = th_where nt (xs (4 * n + 1)) (xs (4 * n + 2)) := ⟨_, rfl⟩
  obtain ⟨Km, hKm⟩ : ∃ K, K = tm_where nt (xs (4 * n + 1)) (xs (4 * n + 2)) := ⟨_, rfl⟩
  rw [← hK, ← hKm] at hop
  obtain ⟨hRE, hth⟩ := hop.next hR
  have hnK : nT K ≤ 1 := nT_le K
  have hKm3 : Km ≤ 3 := by
    rw [hKm]; unfold tm_where
    repeat' split
    all_goals simp
  have heq : nI Km = nI (cdI K) := by
    rcases hop with ⟨h1, h2, -⟩ | ⟨h1, h2, h3⟩
    · rw [h1, h2]; rfl
    · rw [h3]
  refine g_aload_n 1 C rfl dL_law_1348 rfl ?_
  refine g_aload_n 0 C rfl dL_law_1349 rfl ?_
  refine g_iload 4 C rfl dL_law_1350 ?_
  refine g_iconst 1 C dL_law_1352 (by decide) ?_
  refine g_iaddN (4 * n) 1 C dL_law_1353 ?_
  refine g_sldN (4 * n + 1) C hX hbl hbA (by omega) (by omega) dL_law_1354 ?_
  refine g_aload_n 0 C rfl dL_law_1355 rfl ?_
  refine g_iload 4 C rfl dL_law_1356 ?_
  refine g_iconst 2 C dL_law_1358 (by decide) ?_
  refine g_iaddN (4 * n) 2 C dL_law_1359 ?_
  refine g_sldN (4 * n + 2) C hX hbl hbA (by omega) (by omega) dL_law_1360 ?_
  refine g_aload_n 3 C rfl dL_law_1361 rfl ?_
  refine g_callSH (na := 4) (av := [.ref (h 0), .int (xs (4 * n + 1)), .int (xs (4 * n + 2)), .ref ho]) (c_w_where l D cI cJ hst h σ np nt no ni hR.1 ho fo (xs (4 * n + 1)) (xs (4 * n + 2)) K hK) C gL_law_L_where rfl (by decide +kernel) rfl ⟨Nat.le_of_ble_eq_true rfl, Nat.le_of_ble_eq_true rfl⟩ rfl (Nat.le_of_ble_eq_true rfl) ⟨by show k + nT K ≤ 1071; omega, by show j + 6 * nT K ≤ 11110; omega⟩ dL_law_1362 ?_
  refine g_istore [(5, .int (nI (cdI K))), (0, .ref bs), (1, .ref (h 0)), (2, .ref (gm 0)), (3, .ref ho), (4, .int (nI (4 * n)))] C dL_law_1365 (by decide) rfl ?_
  refine g_aload_n 3 C rfl dL_law_1367 rfl ?_
  refine g_aload_n 1 C rfl dL_law_1368 rfl ?_
  refine g_iload 5 C rfl dL_law_1369 ?_
  refine g_iconst 1 C dL_law_1371 (by decide) ?_
  refine g_iaddN (4 * n) 1 C dL_law_1372 ?_
  refine g_sldN (4 * n + 1) C hX hbl hbA (by omega) (by omega) dL_law_1373 ?_
  refine g_aload_n 1 C rfl dL_law_1374 rfl ?_
  refine g_iload 5 C rfl dL_law_1375 ?_
  refine g_iconst 2 C dL_law_1377 (by decide) ?_
  refine g_iaddN (4 * n) 2 C dL_law_1378 ?_
  refine g_sldN (4 * n + 2) C hX hbl hbA (by omega) (by omega) dL_law_1379 ?_
  refine g_callM (na := 2) (As := [.int (xs (4 * n + 1)), .int (xs (4 * n + 2))]) (c_m_where l D cI cJ gm τ np nt no ni hR.2.1 (xs (4 * n + 1)) (xs (4 * n + 2)) Km hKm) C gL_law_X1_where rfl (by decide +kernel) rfl ⟨Nat.le_of_ble_eq_true rfl, Nat.le_of_ble_eq_true rfl⟩ rfl (Nat.le_of_ble_eq_true rfl) ⟨by show k + nT K ≤ 1071; omega, by show j + 6 * nT K ≤ 11110; omega⟩ dL_law_1380 ?_
  refine g_istore [(6, .int (mR Km (rm_where τ no (cl (xs (4 * n + 1))) (cl (xs (4 * n + 2)))))), (5, .int (nI (cdI K))), (0, .ref bs), (1, .ref (h 0)), (2, .ref (gm 0)), (3, .ref ho), (4, .int (nI (4 * n)))] C dL_law_1383 (by decide) rfl ?_
  refine g_aload_n 4 C rfl dL_law_1385 rfl ?_
  refine g_callM (na := 0) (As := []) (c_m_thrown l D cI cJ gm _) C gL_law_X1_thrown rfl (by decide +kernel) rfl ⟨Nat.le_of_ble_eq_true rfl, Nat.le_of_ble_eq_true rfl⟩ rfl (Nat.le_of_ble_eq_true rfl) ⟨by show k + nT K ≤ 1071; omega, by show j + 6 * nT K ≤ 11110; omega⟩ dL_law_1386 ?_
  refine g_is (nI Km) hth ?_
  refine g_iload 1 C rfl dL_law_1389 ?_
  refine g_icmp_eq 1396 C dL_law_1391 (by decide) (fun _ => ?_) (fun zz => absurd heq zz)
  refine g_iload 1 C rfl dL_law_1396 ?_
  rcases hop with ⟨h1, h2, h3, h4, h5⟩ | ⟨h1, h2, h3⟩
  · subst h1; subst h2
    refine g_if_ne 1413 C dL_law_1398 (by decide) (fun zz => absurd rfl zz) (fun _ => ?_)
    refine g_aload_n 5 C rfl dL_law_1401 rfl ?_
    refine g_iconst 0 C dL_law_1402 (by decide) ?_
    refine g_lald (cA := cJ) (n := 1) (a := ho) (f := kF 0 fo (r_where σ (cl (xs (4 * n + 1))) (cl (xs (4 * n + 2))))) 13 1 C rfl rfl (vp_in_nI (n := 0) (N := 1) (by decide) (by decide)) dL_law_1403 ?_
    refine g_iload 0 C rfl dL_law_1404 ?_
    refine g_i2l C dL_law_1406 ?_
    refine g_lcmp C dL_law_1407 ?_
    refine g_is 0 (by show lg_cmp (r_where σ (cl (xs (4 * n + 1))) (cl (xs (4 * n + 2))) : Int32).toInt64 (rm_where τ no (cl (xs (4 * n + 1))) (cl (xs (4 * n + 2))) : Int32).toInt64 = 0; rw [h3]; exact lg_same _) ?_
    refine g_if_eq 1413 C dL_law_1408 (by decide) (fun _ => ?_) (fun zz => absurd rfl zz)
    refine g_goto 1552 C dL_law_1413 (by decide) ?_
    refine g_lv [2, 3, 4, 5, 6] [(0, .ref bs), (1, .ref (h 0)), (2, .ref (gm 0)), (3, .ref ho), (4, .int (nI (4 * n)))] rfl ?_
    refine g_widen (k' := k + 1) (j' := j + 6) (by omega) (by omega) ?_
    exact KK _ _ _ hRE
  · refine g_if_ne 1413 C dL_law_1398 (by decide) (fun _ => ?_) (fun zz => absurd (heq.trans zz) (nI_ne0 (by omega) (by omega)))
    refine g_goto 1552 C dL_law_1413 (by decide) ?_
    refine g_lv [2, 3, 4, 5, 6] [(0, .ref bs), (1, .ref (h 0)), (2, .ref (gm 0)), (3, .ref ho), (4, .int (nI (4 * n)))] rfl ?_
    refine g_widen (k' := k + 1) (j' := j + 6) (by omega) (by omega) ?_
    exact KK _ _ _ hRE
set_option maxRecDepth 100000 in
set_option maxHeartbeats 4000000 in
theorem lc_recipe {p : Program} {l : Launch} {e : Env} {s : State} {m : MethodId} {args : Array Value} {below : List Frame} {meth : Method} {c : Code} {D : va_G} {cI cJ : ClassId} {A : Nat → Prop} {k j : Nat} {Q : State → Prop} {bs L n : Nat} {xs : Nat → Int32} {h gm : Nat → Nat} {ho : Nat} {σ τ : gS} {fo : Nat → Int64} {np nt no ni : Nat} (hst : l.stackTraces = false) (C : gC p s m args meth c cL_law 7 RL wsL_law D (tyIJ cI cJ) A) (hX : va_X bs L xs s s.heap) (hbl : bs < s.heap.size) (hbA : ¬ A bs) (hn : 4 * n + 3 < L) (hL : L ≤ 2048) (hk : k + 1 ≤ 1071 ∧ j + 6 ≤ 11110) (hR : RR σ τ np nt no ni) (KK : ∀ (σ' τ' : gS) (fo' : Nat → Int64), RE σ' τ' → G p l e room_1 s m args below meth c D A 7 (k + 1) (j + 6) Q (wW cI cJ h ho gm σ' fo' τ') [(0, .ref bs), (1, .ref (h 0)), (2, .ref (gm 0)), (3, .ref ho), (4, .int (nI (4 * n)))] 1552 []) : G p l e room_1 s m args below meth c D A 7 k j Q (wW cI cJ h ho gm σ fo τ) [(0, .ref bs), (1, .ref (h 0)), (2, .ref (gm 0)), (3, .ref ho), (4, .int (nI (4 * n)))] 1416 [] := by
  have hop := op_recipe hR (xs (4 * n + 1)) (xs (4 * n + 2)) (xs (4 * n + 3))
  obtain ⟨K, hK⟩ : ∃ K, K = th_recipe (xs (4 * n + 1)) (xs (4 * n + 2)) (xs (4 * n + 3)) := ⟨_, rfl⟩
  obtain ⟨Km, hKm⟩ : ∃ K, K = tm_recipe (xs (4 * n + 1)) (xs (4 * n + 2)) (xs (4 * n + 3)) := ⟨_, rfl⟩
  rw [← hK, ← hKm] at hop
  obtain ⟨hRE, hth⟩ := hop.next hR
  have hnK : nT K ≤ 1 := nT_le K
  have hKm3 : Km ≤ 3 := by
    rw [hKm]; unfold tm_recipe
    repeat' split
    all_goals simp
  have heq : nI Km = nI (cdA K) := by
    rcases hop with ⟨h1, h2, -⟩ | ⟨h1, h2, h3⟩
    · rw [h1, h2]; rfl
    · rw [h3]
  refine g_aload_n 1 C rfl dL_law_1416 rfl ?_
  refine g_aload_n 0 C rfl dL_law_1417 rfl ?_
  refine g_iload 4 C rfl dL_law_1418 ?_
  refine g_iconst 1 C dL_law_1420 (by decide) ?_
  refine g_iaddN (4 * n) 1 C dL_law_1421 ?_
  refine g_sldN (4 * n + 1) C hX hbl hbA (by omega) (by omega) dL_law_1422 ?_
  refine g_aload_n 0 C rfl dL_law_1423 rfl ?_
  refine g_iload 4 C rfl dL_law_1424 ?_
  refine g_iconst 2 C dL_law_1426 (by decide) ?_
  refine g_iaddN (4 * n) 2 C dL_law_1427 ?_
  refine g_sldN (4 * n + 2) C hX hbl hbA (by omega) (by omega) dL_law_1428 ?_
  refine g_aload_n 0 C rfl dL_law_1429 rfl ?_
  refine g_iload 4 C rfl dL_law_1430 ?_
  refine g_iconst 3 C dL_law_1432 (by decide) ?_
  refine g_iaddN (4 * n) 3 C dL_law_1433 ?_
  refine g_sldN (4 * n + 3) C hX hbl hbA (by omega) (by omega) dL_law_1434 ?_
  refine g_aload_n 3 C rfl dL_law_1435 rfl ?_
  refine g_callSH (na := 5) (av := [.ref (h 0), .int (xs (4 * n + 1)), .int (xs (4 * n + 2)), .int (xs (4 * n + 3)), .ref ho]) (c_w_recipe l D cI cJ hst h σ np nt no ni hR.1 ho fo (xs (4 * n + 1)) (xs (4 * n + 2)) (xs (4 * n + 3)) K hK) C gL_law_L_recipe rfl (by decide +kernel) rfl ⟨Nat.le_of_ble_eq_true rfl, Nat.le_of_ble_eq_true rfl⟩ rfl (Nat.le_of_ble_eq_true rfl) ⟨by show k + nT K ≤ 1071; omega, by show j + 6 * nT K ≤ 11110; omega⟩ dL_law_1436 ?_
  refine g_istore [(5, .int (nI (cdA K))), (0, .ref bs), (1, .ref (h 0)), (2, .ref (gm 0)), (3, .ref ho), (4, .int (nI (4 * n)))] C dL_law_1439 (by decide) rfl ?_
  refine g_aload_n 3 C rfl dL_law_1441 rfl ?_
  refine g_aload_n 1 C rfl dL_law_1442 rfl ?_
  refine g_iload 5 C rfl dL_law_1443 ?_
  refine g_iconst 1 C dL_law_1445 (by decide) ?_
  refine g_iaddN (4 * n) 1 C dL_law_1446 ?_
  refine g_sldN (4 * n + 1) C hX hbl hbA (by omega) (by omega) dL_law_1447 ?_
  refine g_aload_n 1 C rfl dL_law_1448 rfl ?_
  refine g_iload 5 C rfl dL_law_1449 ?_
  refine g_iconst 2 C dL_law_1451 (by decide) ?_
  refine g_iaddN (4 * n) 2 C dL_law_1452 ?_
  refine g_sldN (4 * n + 2) C hX hbl hbA (by omega) (by omega) dL_law_1453 ?_
  refine g_aload_n 1 C rfl dL_law_1454 rfl ?_
  refine g_iload 5 C rfl dL_law_1455 ?_
  refine g_iconst 3 C dL_law_1457 (by decide) ?_
  refine g_iaddN (4 * n) 3 C dL_law_1458 ?_
  refine g_sldN (4 * n + 3) C hX hbl hbA (by omega) (by omega) dL_law_1459 ?_
  refine g_callM (na := 3) (As := [.int (xs (4 * n + 1)), .int (xs (4 * n + 2)), .int (xs (4 * n + 3))]) (c_m_recipe l D cI cJ gm τ np nt no ni hR.2.1 (xs (4 * n + 1)) (xs (4 * n + 2)) (xs (4 * n + 3)) Km hKm) C gL_law_X1_recipe rfl (by decide +kernel) rfl ⟨Nat.le_of_ble_eq_true rfl, Nat.le_of_ble_eq_true rfl⟩ rfl (Nat.le_of_ble_eq_true rfl) ⟨by show k + nT K ≤ 1071; omega, by show j + 6 * nT K ≤ 11110; omega⟩ dL_law_1460 ?_
  refine g_istore [(6, .int (mR Km ((rAM τ (xs (4 * n + 1)) (xs (4 * n + 2)) (xs (4 * n + 3)) nt nt).1))), (5, .int (nI (cdA K))), (0, .ref bs), (1, .ref (h 0)), (2, .ref (gm 0)), (3, .ref ho), (4, .int (nI (4 * n)))] C dL_law_1463 (by decide) rfl ?_
  refine g_aload_n 4 C rfl dL_law_1465 rfl ?_
  refine g_callM (na := 0) (As := []) (c_m_thrown l D cI cJ gm _) C gL_law_X1_thrown rfl (by decide +kernel) rfl ⟨Nat.le_of_ble_eq_true rfl, Nat.le_of_ble_eq_true rfl⟩ rfl (Nat.le_of_ble_eq_true rfl) ⟨by show k + nT K ≤ 1071; omega, by show j + 6 * nT K ≤ 11110; omega⟩ dL_law_1466 ?_
  refine g_is (nI Km) hth ?_
  refine g_iload 1 C rfl dL_law_1469 ?_
  refine g_icmp_eq 1476 C dL_law_1471 (by decide) (fun _ => ?_) (fun zz => absurd heq zz)
  refine g_iload 1 C rfl dL_law_1476 ?_
  rcases hop with ⟨h1, h2, h3, h4, h5⟩ | ⟨h1, h2, h3⟩
  · subst h1; subst h2
    refine g_if_ne 1493 C dL_law_1478 (by decide) (fun zz => absurd rfl zz) (fun _ => ?_)
    refine g_aload_n 5 C rfl dL_law_1481 rfl ?_
    refine g_iconst 0 C dL_law_1482 (by decide) ?_
    refine g_lald (cA := cJ) (n := 1) (a := ho) (f := kF 0 fo ((rA σ (xs (4 * n + 1)) (xs (4 * n + 2)) (xs (4 * n + 3)) nt nt).1)) 13 1 C rfl rfl (vp_in_nI (n := 0) (N := 1) (by decide) (by decide)) dL_law_1483 ?_
    refine g_iload 0 C rfl dL_law_1484 ?_
    refine g_i2l C dL_law_1486 ?_
    refine g_lcmp C dL_law_1487 ?_
    refine g_is 0 (by show lg_cmp ((rA σ (xs (4 * n + 1)) (xs (4 * n + 2)) (xs (4 * n + 3)) nt nt).1 : Int32).toInt64 ((rAM τ (xs (4 * n + 1)) (xs (4 * n + 2)) (xs (4 * n + 3)) nt nt).1 : Int32).toInt64 = 0; rw [h3]; exact lg_same _) ?_
    refine g_if_eq 1493 C dL_law_1488 (by decide) (fun _ => ?_) (fun zz => absurd rfl zz)
    refine g_goto 1552 C dL_law_1493 (by decide) ?_
    refine g_lv [2, 3, 4, 5, 6] [(0, .ref bs), (1, .ref (h 0)), (2, .ref (gm 0)), (3, .ref ho), (4, .int (nI (4 * n)))] rfl ?_
    refine g_widen (k' := k + 1) (j' := j + 6) (by omega) (by omega) ?_
    exact KK _ _ _ hRE
  · refine g_if_ne 1493 C dL_law_1478 (by decide) (fun _ => ?_) (fun zz => absurd (heq.trans zz) (nI_ne0 (by omega) (by omega)))
    refine g_goto 1552 C dL_law_1493 (by decide) ?_
    refine g_lv [2, 3, 4, 5, 6] [(0, .ref bs), (1, .ref (h 0)), (2, .ref (gm 0)), (3, .ref ho), (4, .int (nI (4 * n)))] rfl ?_
    refine g_widen (k' := k + 1) (j' := j + 6) (by omega) (by omega) ?_
    exact KK _ _ _ hRE
set_option maxRecDepth 100000 in
set_option maxHeartbeats 4000000 in
theorem lc_paid {p : Program} {l : Launch} {e : Env} {s : State} {m : MethodId} {args : Array Value} {below : List Frame} {meth : Method} {c : Code} {D : va_G} {cI cJ : ClassId} {A : Nat → Prop} {k j : Nat} {Q : State → Prop} {bs L n : Nat} {xs : Nat → Int32} {h gm : Nat → Nat} {ho : Nat} {σ τ : gS} {fo : Nat → Int64} {np nt no ni : Nat} (hst : l.stackTraces = false) (C : gC p s m args meth c cL_law 7 RL wsL_law D (tyIJ cI cJ) A) (hX : va_X bs L xs s s.heap) (hbl : bs < s.heap.size) (hbA : ¬ A bs) (hn : 4 * n + 3 < L) (hL : L ≤ 2048) (hk : k + 1 ≤ 1071 ∧ j + 6 ≤ 11110) (hR : RR σ τ np nt no ni) (KK : ∀ (σ' τ' : gS) (fo' : Nat → Int64), RE σ' τ' → G p l e room_1 s m args below meth c D A 7 (k + 1) (j + 6) Q (wW cI cJ h ho gm σ' fo' τ') [(0, .ref bs), (1, .ref (h 0)), (2, .ref (gm 0)), (3, .ref ho), (4, .int (nI (4 * n)))] 1552 []) : G p l e room_1 s m args below meth c D A 7 k j Q (wW cI cJ h ho gm σ fo τ) [(0, .ref bs), (1, .ref (h 0)), (2, .ref (gm 0)), (3, .ref ho), (4, .int (nI (4 * n)))] 1496 [] := by
  have hop := op_paid hR (xs (4 * n + 1))
  obtain ⟨K, hK⟩ : ∃ K, K = th_paid (xs (4 * n + 1)) := ⟨_, rfl⟩
  obtain ⟨Km, hKm⟩ : ∃ K, K = tm_paid (xs (4 * n + 1)) := ⟨_, rfl⟩
  rw [← hK, ← hKm] at hop
  obtain ⟨hRE, hth⟩ := hop.next hR
  have hnK : nT K ≤ 1 := nT_le K
  have hKm3 : Km ≤ 3 := by
    rw [hKm]; unfold tm_paid
    repeat' split
    all_goals simp
  have heq : nI Km = nI (cdI K) := by
    rcases hop with ⟨h1, h2, -⟩ | ⟨h1, h2, h3⟩
    · rw [h1, h2]; rfl
    · rw [h3]
  refine g_aload_n 1 C rfl dL_law_1496 rfl ?_
  refine g_aload_n 0 C rfl dL_law_1497 rfl ?_
  refine g_iload 4 C rfl dL_law_1498 ?_
  refine g_iconst 1 C dL_law_1500 (by decide) ?_
  refine g_iaddN (4 * n) 1 C dL_law_1501 ?_
  refine g_sldN (4 * n + 1) C hX hbl hbA (by omega) (by omega) dL_law_1502 ?_
  refine g_aload_n 3 C rfl dL_law_1503 rfl ?_
  refine g_callSH (na := 3) (av := [.ref (h 0), .int (xs (4 * n + 1)), .ref ho]) (c_w_paid l D cI cJ hst h σ np nt no ni hR.1 ho fo (xs (4 * n + 1)) K hK) C gL_law_L_paid rfl (by decide +kernel) rfl ⟨Nat.le_of_ble_eq_true rfl, Nat.le_of_ble_eq_true rfl⟩ rfl (Nat.le_of_ble_eq_true rfl) ⟨by show k + nT K ≤ 1071; omega, by show j + 6 * nT K ≤ 11110; omega⟩ dL_law_1504 ?_
  refine g_istore [(5, .int (nI (cdI K))), (0, .ref bs), (1, .ref (h 0)), (2, .ref (gm 0)), (3, .ref ho), (4, .int (nI (4 * n)))] C dL_law_1507 (by decide) rfl ?_
  refine g_aload_n 3 C rfl dL_law_1509 rfl ?_
  refine g_aload_n 1 C rfl dL_law_1510 rfl ?_
  refine g_iload 5 C rfl dL_law_1511 ?_
  refine g_iconst 1 C dL_law_1513 (by decide) ?_
  refine g_iaddN (4 * n) 1 C dL_law_1514 ?_
  refine g_sldN (4 * n + 1) C hX hbl hbA (by omega) (by omega) dL_law_1515 ?_
  refine g_callM (na := 1) (As := [.int (xs (4 * n + 1))]) (c_m_paid l D cI cJ gm τ np nt no ni hR.2.1 (xs (4 * n + 1)) Km hKm) C gL_law_X1_paid rfl (by decide +kernel) rfl ⟨Nat.le_of_ble_eq_true rfl, Nat.le_of_ble_eq_true rfl⟩ rfl (Nat.le_of_ble_eq_true rfl) ⟨by show k + nT K ≤ 1071; omega, by show j + 6 * nT K ≤ 11110; omega⟩ dL_law_1516 ?_
  refine g_istore [(6, .int (mR Km (τ.2 13 (cl (xs (4 * n + 1)))))), (5, .int (nI (cdI K))), (0, .ref bs), (1, .ref (h 0)), (2, .ref (gm 0)), (3, .ref ho), (4, .int (nI (4 * n)))] C dL_law_1519 (by decide) rfl ?_
  refine g_aload_n 4 C rfl dL_law_1521 rfl ?_
  refine g_callM (na := 0) (As := []) (c_m_thrown l D cI cJ gm _) C gL_law_X1_thrown rfl (by decide +kernel) rfl ⟨Nat.le_of_ble_eq_true rfl, Nat.le_of_ble_eq_true rfl⟩ rfl (Nat.le_of_ble_eq_true rfl) ⟨by show k + nT K ≤ 1071; omega, by show j + 6 * nT K ≤ 11110; omega⟩ dL_law_1522 ?_
  refine g_is (nI Km) hth ?_
  refine g_iload 1 C rfl dL_law_1525 ?_
  refine g_icmp_eq 1532 C dL_law_1527 (by decide) (fun _ => ?_) (fun zz => absurd heq zz)
  refine g_iload 1 C rfl dL_law_1532 ?_
  rcases hop with ⟨h1, h2, h3, h4, h5⟩ | ⟨h1, h2, h3⟩
  · subst h1; subst h2
    refine g_if_ne 1549 C dL_law_1534 (by decide) (fun zz => absurd rfl zz) (fun _ => ?_)
    refine g_aload_n 5 C rfl dL_law_1537 rfl ?_
    refine g_iconst 0 C dL_law_1538 (by decide) ?_
    refine g_lald (cA := cJ) (n := 1) (a := ho) (f := kF 0 fo (σ.2 11 (cl (xs (4 * n + 1))))) 13 1 C rfl rfl (vp_in_nI (n := 0) (N := 1) (by decide) (by decide)) dL_law_1539 ?_
    refine g_iload 0 C rfl dL_law_1540 ?_
    refine g_i2l C dL_law_1542 ?_
    refine g_lcmp C dL_law_1543 ?_
    refine g_is 0 (by show lg_cmp (σ.2 11 (cl (xs (4 * n + 1))) : Int32).toInt64 (τ.2 13 (cl (xs (4 * n + 1))) : Int32).toInt64 = 0; rw [h3]; exact lg_same _) ?_
    refine g_if_eq 1549 C dL_law_1544 (by decide) (fun _ => ?_) (fun zz => absurd rfl zz)
    refine g_goto 1552 C dL_law_1549 (by decide) ?_
    refine g_lv [2, 3, 4, 5, 6] [(0, .ref bs), (1, .ref (h 0)), (2, .ref (gm 0)), (3, .ref ho), (4, .int (nI (4 * n)))] rfl ?_
    refine g_widen (k' := k + 1) (j' := j + 6) (by omega) (by omega) ?_
    exact KK _ _ _ hRE
  · refine g_if_ne 1549 C dL_law_1534 (by decide) (fun _ => ?_) (fun zz => absurd (heq.trans zz) (nI_ne0 (by omega) (by omega)))
    refine g_goto 1552 C dL_law_1549 (by decide) ?_
    refine g_lv [2, 3, 4, 5, 6] [(0, .ref bs), (1, .ref (h 0)), (2, .ref (gm 0)), (3, .ref ho), (4, .int (nI (4 * n)))] rfl ?_
    refine g_widen (k' := k + 1) (j' := j + 6) (by omega) (by omega) ?_
    exact KK _ _ _ hRE
