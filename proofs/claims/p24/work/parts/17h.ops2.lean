theorem mnM_cg {τ τ' : gS} (h1 : τ'.2 1 = τ.2 1) (h5 : τ'.2 5 = τ.2 5) (h6 : τ'.2 6 = τ.2 6) (nt q : Nat) : mnM τ' nt q = mnM τ nt q := by
  simp only [mnM, topB, h1, h5, h6]
theorem vlP_cg {τ τ' : gS} (h1 : τ'.2 1 = τ.2 1) (h5 : τ'.2 5 = τ.2 5) (h6 : τ'.2 6 = τ.2 6) (h8 : τ'.2 8 = τ.2 8) (nt : Nat) (its : Int32) : ∀ n, vlP τ' nt its n = vlP τ nt its n
  | 0 => rfl
  | n + 1 => by rw [vlP, vlP, vlP_cg h1 h5 h6 h8 nt its n, mnM_cg h1 h5 h6, h8]
theorem valM_cg {τ τ' : gS} (h1 : τ'.2 1 = τ.2 1) (h5 : τ'.2 5 = τ.2 5) (h6 : τ'.2 6 = τ.2 6) (h8 : τ'.2 8 = τ.2 8) (h7 : τ'.2 7 = τ.2 7) (nt ni q : Nat) : valM τ' nt ni q = valM τ nt ni q := by
  have hm : meanM τ' nt ni q = meanM τ nt ni q := by
    rw [meanM, meanM, mnM_cg h1 h5 h6, vlP_cg h1 h5 h6 h8]
  rw [valM, valM, wrtM, wrtM, hm, h7]
theorem op_of {σ τ : gS} {np nt no ni : Nat} (hR : RR σ τ np nt no ni) (q v : Int32) : opOK (th_of ni q v) (tm_of ni q v) cdI (r_of σ np nt ni (cl q) (cl v)) (rm_of (sS τ 0 0) nt ni (cl q) (cl v)) (σ) (sm_of2 τ nt ni (cl q) (cl v)) := by
  have hp := hR.pt
  refine opIf Iff.rfl (by decide) fun h0 => opIf Iff.rfl (by decide) fun h1 => ?_
  have hq := (nb_lt (by omega) h0).1
  obtain ⟨a, ⟨-, ha⟩, rfl⟩ := out_nat (M := 8) rfl (by decide) h1
  rw [cl_nI (by omega)]
  generalize cl q = b at *
  have hv := val_eq (hR.S0 0) (q := b) (by omega)
  refine ok0 ?_ ⟨np, nt, no, ni, ?_⟩ ?_
  · rw [r_of, rm_of, hv]
    by_cases c0 : a = 0
    · rw [if_pos c0, if_pos c0]; exact (hR.lc (by omega)).symm
    rw [if_neg c0, if_neg c0]
    by_cases c1 : a = 1
    · rw [if_pos c1, if_pos c1]; exact (hR.2.2.2.2.2.2.2.2.2.2.2.1 b (by omega)).symm
    rw [if_neg c1, if_neg c1]
    by_cases c2 : a = 2
    · rw [if_pos c2, if_pos c2]
    rw [if_neg c2, if_neg c2]
    by_cases c3 : a = 3
    · rw [if_pos c3, if_pos c3]; exact (main_eq (hR.S0 0) (by omega)).symm
    rw [if_neg c3, if_neg c3]
    by_cases c4 : a = 4
    · rw [if_pos c4, if_pos c4]; exact (hR.2.2.2.2.2.2.2.2.2.2.2.2.2.1 b (by omega)).symm
    rw [if_neg c4, if_neg c4]
    by_cases c5 : a = 5
    · rw [if_pos c5, if_pos c5]; exact (hR.2.2.2.2.2.2.2.2.2.2.2.2.2.2.1 b (by omega)).symm
    rw [if_neg c5, if_neg c5]
    exact (look_eq (hR.S0 0) (by omega) (by omega)).symm
  · rw [sm_of2]; repeat' split
    all_goals exact hR
  · rw [sm_of2]; repeat' split
    all_goals rfl
theorem op_sell {σ τ : gS} {np nt no ni : Nat} (hR : RR σ τ np nt no ni) (q x : Int32) : opOK (th_sell σ ni q x) (tm_sell τ ni q x) cdI (valA (s_sell σ (cl q) x) np nt ni (cl q)) (valM (m_sell0 τ (cl q) x) nt ni (cl q)) (s_sell σ (cl q) x) (m_sell2 τ nt ni (cl q) x) := by
  have hp := hR.pt
  refine opIf Iff.rfl (by decide) fun h0 => ?_
  have hq := (nb_lt (by omega) h0).1
  generalize cl q = b at *
  refine opIf Iff.rfl (by decide) fun h1 => opIf (by rw [hR.house (by omega), hR.lc (by omega)]) (by decide) fun h2 => ?_
  have hN : RR (s_sell σ b x) (m_sell0 τ b x) np nt no ni := by
    obtain ⟨A, M, N, ⟨r1, r2, r3, r4, r5, r6, r7, r8, r9, r10, r11⟩⟩ := hR
    exact ⟨A, M, N, ⟨r1, r2, r3, r4, r5, r6, r7, r8, r9, fun q hq => upd_cg (fun _ => r10 q hq) fun _ => rfl, r11⟩⟩
  exact ok0 (val_eq hN (by omega)).symm ⟨np, nt, no, ni, hN⟩ rfl
theorem op_lend {σ τ : gS} {np nt no ni : Nat} (hR : RR σ τ np nt no ni) (q x d : Int32) : opOK (th_lend σ ni q x d) (tm_lend τ ni q x d) cdI (valA σ np nt ni (cl q) / 100 + 1) (valM (ml0 τ (cl q) x d) nt ni (cl q) / 100 + 1) (s_lend σ np nt ni (cl q) (cl x) d) (m_lend2 τ nt ni (cl q) x d) := by
  have hp := hR.pt
  refine opIf Iff.rfl (by decide) fun h0 => ?_
  have hq := (nb_lt (by omega) fun z => h0 (Or.inl z)).1
  obtain ⟨hx, ex⟩ := nb_lt (N := 4) (by omega) fun z => h0 (Or.inr z)
  generalize cl q = b at *
  have e9 := hR.2.2.2.2.2.2.2.2.2.2.2.1 b (by omega)
  refine opIf Iff.rfl (by decide) fun h1 => opIf (by rw [hR.house (by omega), e9]) (by decide) fun h2 => ?_
  obtain ⟨a, ⟨ha1, ha⟩, rfl⟩ := out_nat (M := 100) rfl (by decide) h1
  have h4 : (1 : Int32).toInt = 1 := rfl
  have hv : valM (ml0 τ b x (nI a)) nt ni b = valA σ np nt ni b := (valM_cg (τ := τ) (τ' := ml0 τ b x (nI a)) rfl rfl rfl rfl rfl nt ni b).trans (val_eq hR (by omega))
  rw [hv, s_lend, m_lend2, hv]
  refine ok0 rfl ⟨np, nt, no, ni, ?_⟩ rfl
  obtain ⟨⟨A1, A2, A3, A4, A5, A6, A7⟩, ⟨M1, M2, M3, M4, M5, M6, M7⟩, ⟨n1, n2, n3, n4, n5, n6, n7, n8, n9⟩, ⟨r1, r2, r3, r4, r5, r6, r7, r8, r9, r10, r11, r12, r13, r14⟩⟩ := hR
  refine ⟨⟨A1, A2, A3, A4, A5, A6, fun q => ?_⟩, ⟨M1, M2, M3, M4, M5, M6, fun q => ?_⟩, ⟨n1, n2, n3, n4, n5, n6, n7, fun q hq => ?_, n9⟩, ⟨r1, r2, r3, r4, r5, r6, r7, r8, r9, r10, fun q hq => ?_, fun q hq => ?_, fun q hq => ?_, r14⟩⟩
  · exact upd_all (P := fun _ v => ∃ j, j < 4 ∧ v = nI j) q (fun _ => A7 q) fun _ => ⟨_, hx, rfl⟩
  · exact upd_all (P := fun _ v => v = -1 ∨ ∃ j, j < 4 ∧ v = nI j) q (fun _ => M7 q) fun _ => Or.inr ⟨_, hx, ex⟩
  · exact upd_all (P := fun _ v => 0 ≤ v.toInt ∧ v.toInt ≤ 100) q (fun _ => n8 q hq) fun _ => by rw [nI_toInt (by omega)]; omega
  · show upd (τ.2 9) b x q = if ¬ upd (σ.2 7) b (nI a) q ≤ 0 then upd (σ.2 8) b (nI (cl x)) q else -1
    by_cases c : q = b
    · subst c
      rw [upd_s, upd_s, upd_s, if_pos (nI_nle (by omega) (by omega)), ← ex]
    · rw [upd_n c, upd_n c, upd_n c]; exact r11 q hq
  · exact upd_cg (fun _ => r12 q hq) fun _ => rfl
  · exact upd_cg (fun _ => r13 q hq) fun _ => rfl
theorem mix_eq {σ τ : gS} {np nt no ni : Nat} (hR : RR σ τ np nt no ni) {a b q : Nat} (ha : a < 12) (hb : b < 12) (r g bb : Int32) : rdM τ a b q r g bb = rdist σ a b q r g bb := by
  simp only [rdM, farM, rdist, mixd, colT_M hR ha (show 0 < 3 by omega), colT_M hR ha (show 1 < 3 by omega), colT_M hR ha (show 2 < 3 by omega), colT_M hR hb (show 0 < 3 by omega), colT_M hR hb (show 1 < 3 by omega), colT_M hR hb (show 2 < 3 by omega)]
theorem rP_eq {σ τ : gS} {np nt no ni : Nat} (hR : RR σ τ np nt no ni) {a b : Nat} (ha : a < 12) (hb : b < 12) (r g bb : Int32) (s : Int32 × Int32) : ∀ n, rPM τ r g bb a b s n = rP σ r g bb a b s n
  | 0 => rfl
  | n + 1 => by rw [rPM, rP, rP_eq hR ha hb r g bb s n, mix_eq hR ha hb]
theorem left_eq {σ τ : gS} {np nt no ni : Nat} (hR : RR σ τ np nt no ni) {a : Nat} (ha : a < 12) : τ.2 2 a ≤ 0 ↔ σ.2 2 a = 0 := by
  rw [hR.2.2.2.2.2.2.1 a ha, i32_le, i32_eq]
  have h1 := (hR.2.2.1.1 a ha).1
  have h0 : (0 : Int32).toInt = 0 := rfl
  omega
theorem rB_eq {σ τ : gS} {np nt no ni : Nat} (hR : RR σ τ np nt no ni) {a : Nat} (r g bb : Int32) (s : Int32 × Int32) : ∀ n, a + n ≤ 12 → rBM τ r g bb a s n = rB σ r g bb a s n
  | 0, _ => rfl
  | n + 1, h => by
    have ih := rB_eq hR (a := a) r g bb s n (by omega)
    have e1 := left_eq hR (a := a) (by omega)
    have e2 := left_eq hR (a := a + n) (by omega)
    rw [rBM, rB, ih, rP_eq hR (by omega) (by omega)]
    by_cases c : σ.2 2 a = 0 ∨ σ.2 2 (a + n) = 0
    · rw [if_pos c, if_pos (c.imp e1.mpr e2.mpr)]
    · rw [if_neg c, if_neg (fun z => c (z.imp e1.mp e2.mp))]
theorem rA_eq {σ τ : gS} {np nt no ni : Nat} (hR : RR σ τ np nt no ni) (r g bb : Int32) : ∀ n, n ≤ nt → rAM τ r g bb nt n = rA σ r g bb nt n
  | 0, _ => rfl
  | n + 1, h => by
    have hp := hR.pt
    rw [rAM, rA, rA_eq hR r g bb n (by omega), rB_eq hR r g bb _ (nt - n) (by omega)]
theorem op_recipe {σ τ : gS} {np nt no ni : Nat} (hR : RR σ τ np nt no ni) (r g b : Int32) : opOK (th_recipe r g b) (tm_recipe r g b) cdA ((rA σ r g b nt nt).1) ((rAM τ r g b nt nt).1) (σ) (sS τ 0 0) :=
  opIf Iff.rfl (by decide) fun _ => ok0 (by rw [rA_eq hR r g b nt (Nat.le_refl nt)]) ⟨np, nt, no, ni, hR⟩ rfl
