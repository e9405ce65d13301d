theorem i32_nle_iff {x y : Int32} : (¬ x ≤ y) ↔ y < x := by rw [i32_le, i32_lt]; omega
theorem nlt_of {n N : Nat} (h : n ≤ N) (hN : N < 2 ^ 31) (q : ¬ ¬ nI n < nI N) : n < N := (nI_ltI (by omega) hN).mp (Classical.not_not.mp q)
theorem op_pot {σ τ : gS} {np nt no ni : Nat} (hR : RR σ τ np nt no ni)  : opOK (th_pot no) (tm_pot no) cdS (nI no) (nI no) (sS σ 2 (nI (no + 1))) (sS (sS τ 0 0) 3 (nI (no + 1))) := by
  have hp := hR.pt
  obtain ⟨⟨A1, A2, A3, A4, A5, A6, A7⟩, ⟨M1, M2, M3, M4, M5, M6, M7⟩, ⟨n1, n2, n3, n4, n5, n6, n7, n8⟩, r⟩ := hR
  refine opIf (full_iff (N := 10) (by omega) (by decide)) (by decide) fun h1 => ?_
  have h2 := nlt_of (N := 10) (by omega) (by decide) h1
  exact ok0 rfl ⟨np, nt, no + 1, ni, ⟨A1, A2, ⟨rfl, by omega⟩, A4, A5, A6, A7⟩, ⟨M1, M2, ⟨rfl, by omega⟩, M4, M5, M6, M7⟩, ⟨n1, n2, fun p t hp ht h => n3 p t hp ht (by omega), n4, n5, n6, n7, n8⟩, r⟩ rfl
theorem op_picture {σ τ : gS} {np nt no ni : Nat} (hR : RR σ τ np nt no ni)  : opOK (th_picture ni) (tm_picture ni) cdS (nI ni) (nI ni) (sS σ 3 (nI (ni + 1))) (sS (sS τ 0 0) 4 (nI (ni + 1))) := by
  have hp := hR.pt
  obtain ⟨⟨A1, A2, A3, A4, A5, A6, A7⟩, ⟨M1, M2, M3, M4, M5, M6, M7⟩, N, r⟩ := hR
  refine opIf (full_iff (N := 8) (by omega) (by decide)) (by decide) fun h1 => ?_
  have h2 := nlt_of (N := 8) (by omega) (by decide) h1
  exact ok0 rfl ⟨np, nt, no, ni + 1, ⟨A1, A2, A3, ⟨rfl, by omega⟩, A5, A6, A7⟩, ⟨M1, M2, M3, ⟨rfl, by omega⟩, M5, M6, M7⟩, N, r⟩ rfl
theorem op_pigment {σ τ : gS} {np nt no ni : Nat} (hR : RR σ τ np nt no ni) (r g b : Int32) : opOK (th_pigment np r g b) (tm_pigment np r g b) cdA (nI np) (nI np) (s_pigment σ np r g b) (m_pigment τ np r g b) := by
  have hp := hR.pt
  obtain ⟨⟨A1, A2, A3, A4, A5, A6, A7⟩, ⟨M1, M2, M3, M4, M5, M6, M7⟩, ⟨n1, n2, n3, n4, n5, n6, n7, n8, n9⟩, ⟨r1, r2, r3⟩⟩ := hR
  refine opIf Iff.rfl (by decide) fun _ => opIf (full_iff (N := 6) (by omega) (by decide)) (by decide) fun h1 => ?_
  have h2 := nlt_of (N := 6) (by omega) (by decide) h1
  refine ok0 rfl ⟨np + 1, nt, no, ni, ⟨⟨rfl, by omega⟩, A2, A3, A4, A5, A6, A7⟩, ⟨⟨rfl, by omega⟩, M2, M3, M4, M5, M6, M7⟩, ⟨n1, n2, n3, n4, n5, n6, n7, n8, fun t ht => ?_⟩, ⟨r1, fun j hj => ?_, r3⟩⟩ rfl
  · show (σ.2 1 t).toInt < (nI (np + 1)).toInt
    have h3 := n9 t ht
    rw [A1.1, nI_toInt (by omega)] at h3
    rw [nI_toInt (by omega)]; omega
  show upd (upd (upd (τ.2 0) (3 * np) r) (3 * np + 1) g) (3 * np + 2) b j = upd (upd (upd (σ.2 0) (np * 3) r) (np * 3 + 1) g) (np * 3 + 2) b j
  rw [Nat.mul_comm 3 np]
  exact upd_cg (fun _ => upd_cg (fun _ => upd_cg (fun _ => r2 j hj) fun _ => rfl) fun _ => rfl) fun _ => rfl
theorem op_damp {σ τ : gS} {np nt no ni : Nat} (hR : RR σ τ np nt no ni) (x d : Int32) : opOK (th_damp x d) (tm_damp x d) cdI (σ.2 10 (cl x)) (τ.2 12 (cl x)) (sA σ 10 (upd (σ.2 10) (cl x) d)) (sA (sS τ 0 0) 12 (upd (τ.2 12) (cl x) d)) := by
  have hp := hR.pt
  obtain ⟨A, M, ⟨n1, n2, n3, n4, n5, n6, n7, n8⟩, ⟨r1, r2, r3, r4, r5, r6, r7, r8, r9, r10, r11, r12, r13, r14, r15⟩⟩ := hR
  refine opIf Iff.rfl (by decide) fun h1 => opIf Iff.rfl (by decide) fun h2 => ?_
  have hx := (nb_lt (N := 4) (by omega) h1).1
  refine ok0 (r14 _ hx).symm ⟨np, nt, no, ni, A, M, ⟨n1, n2, n3, n4, n5, n6, fun h hh => ?_, n8⟩, ⟨r1, r2, r3, r4, r5, r6, r7, r8, r9, r10, r11, r12, r13, fun h hh => ?_, r15⟩⟩ rfl
  · refine upd_all (P := fun _ v => 0 ≤ v.toInt ∧ v.toInt ≤ 100) h (fun _ => n7 h hh) fun _ => ?_
    obtain ⟨a, ⟨-, ha⟩, rfl⟩ := out_nat (M := 100) rfl (by decide) h2
    rw [nI_toInt (by omega)]; omega
  · exact upd_cg (fun _ => r14 h hh) fun _ => rfl
theorem op_tube {σ τ : gS} {np nt no ni : Nat} (hR : RR σ τ np nt no ni) (x g : Int32) : opOK (th_tube np nt x g) (tm_tube np nt x g) cdI (nI nt) (nI nt) (s_tube σ nt x g) (m_tube τ nt x g) := by
  have hp := hR.pt
  obtain ⟨⟨A1, A2, A3, A4, A5, A6, A7⟩, ⟨M1, M2, M3, M4, M5, M6, M7⟩, ⟨n1, n2, n3, n4, n5, n6, n7, n8, n9⟩, ⟨r1, r2, r3, r4, r5⟩⟩ := hR
  refine opIf Iff.rfl (by decide) fun h0 => opIf Iff.rfl (by decide) fun hg => opIf (full_iff (N := 12) (by omega) (by decide)) (by decide) fun h1 => ?_
  have h2 := nlt_of (N := 12) (by omega) (by decide) h1
  obtain ⟨hx, ex⟩ := nb_lt (by omega) h0
  refine ok0 rfl ⟨np, nt + 1, no, ni, ⟨A1, ⟨rfl, by omega⟩, A3, A4, fun t => ?_, A6, A7⟩, ⟨M1, ⟨rfl, by omega⟩, M3, M4, fun t => ?_, M6, M7⟩, ⟨fun t ht => ?_, n2, fun p t hp ht h => n3 p t hp ht (by omega), n4, fun q k t hq hk ht h => n5 q k t hq hk ht (h.elim (fun z => Or.inl (by omega)) Or.inr), n6, n7, n8, fun t ht => ?_⟩, ⟨r1, r2, fun t ht => ?_, fun t ht => ?_, r5⟩⟩ rfl
  · exact upd_all (P := fun _ v => ∃ j, j < 6 ∧ v = nI j) t (fun _ => A5 t) fun _ => ⟨_, by omega, ex⟩
  · exact upd_all (P := fun _ v => ∃ j, j < 6 ∧ v = nI j) t (fun _ => M5 t) fun _ => ⟨_, by omega, ex⟩
  · refine upd_all (P := fun _ v => 0 ≤ v.toInt ∧ v.toInt + zsum (fun p => (σ.2 3 (p * 12 + t)).toInt) 10 ≤ 1000) t (fun _ => n1 t ht) fun e => ?_
    obtain ⟨a, ⟨-, ha⟩, rfl⟩ := out_nat (M := 1000) rfl (by decide) hg
    rw [nI_toInt (by omega), zsum_0 10 fun p hp => by rw [n3 p t hp ht (by omega)]; rfl]; omega
  · show (upd (σ.2 1) nt x t).toInt < (σ.1 0).toInt
    refine upd_all (P := fun _ v => v.toInt < (σ.1 0).toInt) t (fun e => n9 t (by omega)) fun _ => ?_
    rw [A1.1, ex, nI_toInt (by omega), nI_toInt (by omega)]; omega
  · exact upd_cg (fun _ => r3 t ht) fun _ => rfl
  · exact upd_cg (fun _ => r4 t ht) fun _ => rfl
theorem nInv.ent {σ : gS} {nt no : Nat} (h : nInv σ nt no) {p t : Nat} (hp : p < 10) (ht : t < 12) : 0 ≤ (σ.2 3 (p * 12 + t)).toInt ∧ (σ.2 3 (p * 12 + t)).toInt ≤ 1000 := by
  have h1 := h.1 t ht
  have h2 := zsum_ge (f := fun p => (σ.2 3 (p * 12 + t)).toInt) 10 (fun i hi => h.2.1 i t hi ht) p hp
  have h3 := h.2.1 p t hp ht
  omega
theorem op_squeeze {σ τ : gS} {np nt no ni : Nat} (hR : RR σ τ np nt no ni) (x t g : Int32) : opOK (th_squeeze σ nt no x t g) (tm_squeeze τ nt no x t g) cdI (σ.2 2 (cl t) - g) (τ.2 2 (cl t) - g) (s_squeeze σ (cl x) (cl t) g) (m_squeeze τ (cl x) (cl t) g) := by
  have hp := hR.pt
  have hent := @nInv.ent _ _ _ hR.2.2.1
  obtain ⟨A, M, ⟨n1, n2, n3, n4, n5, n6, n7, n8⟩, ⟨r1, r2, r3, r4, r5, r6, r7, r8, r9⟩⟩ := hR
  refine opIf Iff.rfl (by decide) fun h0 => ?_
  have hx := (nb_lt (by omega) fun z => h0 (Or.inl z)).1
  have ht := (nb_lt (by omega) fun z => h0 (Or.inr z)).1
  refine opIf Iff.rfl (by decide) fun hg => opIf (by rw [r4 _ (by omega)]) (by decide) fun h1 => ?_
  have h2 : g ≤ σ.2 2 (cl t) := Classical.not_not.mp h1
  rw [i32_le] at h2
  have h3 := out_lo hg
  rw [i32_le] at h3
  have h4 : (1 : Int32).toInt = 1 := rfl
  generalize cl x = a at *
  generalize cl t = b at *
  have b1 := n1 b (by omega)
  have b2 := zsum_nn (f := fun p => (σ.2 3 (p * 12 + b)).toInt) 10 (fun i hi => n2 i b hi (by omega))
  have b3 := hent (p := a) (t := b) (by omega) (by omega)
  have es : (σ.2 2 b - g).toInt = (σ.2 2 b).toInt - g.toInt := ti_sub (by omega) (by omega)
  have ea : (σ.2 3 (a * 12 + b) + g).toInt = (σ.2 3 (a * 12 + b)).toInt + g.toInt := ti_add (by omega) (by omega)
  refine ok0 (by rw [r4 _ (by omega)]) ⟨np, nt, no, ni, A, M, ⟨fun t' ht' => ?_, fun p t' hp' ht' => ?_, fun p t' hp' ht' h => ?_, fun q k t' hq hk ht' => ?_, fun q k t' hq hk ht' h => ?_, fun q k hq hk => ?_, n7, n8⟩, ⟨r1, r2, r3, fun t' ht' => ?_, fun t' ht' => ?_, fun p t' hp' ht' => ?_, r7, fun q k t' hq hk ht' => ?_, r9⟩⟩ rfl
  · show 0 ≤ (upd (σ.2 2) b (σ.2 2 b - g) t').toInt ∧ (upd (σ.2 2) b (σ.2 2 b - g) t').toInt + zsum (fun p => (upd (σ.2 3) (a * 12 + b) (σ.2 3 (a * 12 + b) + g) (p * 12 + t')).toInt) 10 ≤ 1000
    by_cases e : t' = b
    · subst e
      rw [upd_s, zsum_one (f := fun p => (σ.2 3 (p * 12 + t')).toInt) (x := a) (fun i hi => by rw [upd_n (by omega)]) 10 (by omega), upd_s, es, ea]
      omega
    · rw [upd_n e, zsum_cg 10 fun p hp => by rw [upd_n (by omega)]]
      exact n1 t' ht'
  · exact upd_all (P := fun _ v => 0 ≤ v.toInt) _ (fun _ => n2 p t' hp' ht') fun _ => by rw [ea]; omega
  · exact upd_all (P := fun _ v => v = 0) _ (fun _ => n3 p t' hp' ht' h) fun e => by omega
  · exact (congrArg (fun v : Int32 => 0 ≤ v.toInt ∧ v.toInt ≤ 1000) (upd_n (by omega))).mpr (n4 q k t' hq hk ht')
  · exact (upd_n (by omega)).trans (n5 q k t' hq hk ht' h)
  · refine Int.le_trans (n6 q k hq hk) (Int.le_of_eq (zsum_cg 12 fun t' ht' => ?_))
    exact congrArg Int32.toInt (upd_n (by omega)).symm
  · exact upd_cg (fun _ => r4 t' ht') fun _ => by rw [r4 _ (by omega)]
  · exact (r5 t' ht').trans (upd_n (by omega)).symm
  · show upd (τ.2 4) (12 * a + b) _ (12 * p + t') = upd (σ.2 3) (a * 12 + b) _ (p * 12 + t')
    by_cases e : p = a ∧ t' = b
    · obtain ⟨rfl, rfl⟩ := e
      rw [upd_s, upd_s, r6 _ _ hp' ht']
    · rw [upd_n (by omega), upd_n (by omega), r6 _ _ hp' ht']
  · exact (r8 q k t' hq hk ht').trans (upd_n (by omega)).symm
