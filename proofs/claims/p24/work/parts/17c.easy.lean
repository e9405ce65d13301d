theorem op_left {σ τ : gS} {np nt no ni : Nat} (hR : RR σ τ np nt no ni) (t : Int32) : opOK (th_left nt t) (tm_left nt t) cdI (σ.2 2 (cl t)) (τ.2 2 (cl t)) (σ) (sS τ 0 0) := by
  refine opIf Iff.rfl (by decide) fun h1 => ok0 ?_ ⟨np, nt, no, ni, hR⟩ rfl
  have hp := hR.pt
  exact (hR.2.2.2.2.2.2.1 _ (by have := (nb_lt (by omega) h1).1; omega)).symm
theorem op_has {σ τ : gS} {np nt no ni : Nat} (hR : RR σ τ np nt no ni) (x t : Int32) : opOK (th_has nt no x t) (tm_has nt no x t) cdI (r_has σ nt (cl x) t) (rm_has τ (cl x) t) (σ) (sS τ 0 0) := by
  refine opIf Iff.rfl (by decide) fun h1 => opIf Iff.rfl (by decide) fun h2 => ok0 ?_ ⟨np, nt, no, ni, hR⟩ rfl
  have hp := hR.pt
  have hx := (nb_lt (by omega) h1).1
  rw [r_has, rm_has]
  by_cases c : t = -1
  · rw [if_pos c, if_pos c]; exact (hR.pot (by omega)).symm
  · rw [if_neg c, if_neg c]
    have ht := (nb_lt (by omega) fun z => h2 ⟨c, z⟩).1
    exact (hR.2.2.2.2.2.2.2.2.1 _ _ (by omega) (by omega)).symm
theorem op_colour {σ τ : gS} {np nt no ni : Nat} (hR : RR σ τ np nt no ni) (x v : Int32) : opOK (th_colour no x v) (tm_colour no x v) cdI (colR σ nt (cl x) (cl v)) (rm_colour τ nt (cl x) (cl v)) (σ) (sS τ 0 0) := by
  refine opIf Iff.rfl (by decide) fun h1 => opIf Iff.rfl (by decide) fun h2 => ok0 ?_ ⟨np, nt, no, ni, hR⟩ rfl
  have hp := hR.pt
  have hx := (nb_lt (by omega) h1).1
  obtain ⟨a, ⟨-, ha⟩, rfl⟩ := out_nat (M := 2) rfl (by decide) h2
  rw [cl_nI (by omega), colR, rm_colour, hR.pot (by omega)]
  congr 2
  exact isum_cg nt fun t ht => by
    rw [colT_M hR (by omega) (by omega), hR.2.2.2.2.2.2.2.2.1 _ _ (by omega) (by omega)]
theorem op_layer {σ τ : gS} {np nt no ni : Nat} (hR : RR σ τ np nt no ni) (q k t : Int32) : opOK (th_layer σ nt ni q k t) (tm_layer τ nt ni q k t) cdI (σ.2 3 ((10 + cl q * 12 + cl k) * 12 + cl t)) (τ.2 6 (12 * (12 * cl q + cl k) + cl t)) (σ) (sS τ 0 0) := by
  have hp := hR.pt
  have key : ¬ bad q (nI ni) → τ.2 5 (cl q) = σ.2 4 (cl q) := fun h => hR.lc (by have := (nb_lt (by omega) h).1; omega)
  refine opIf ?_ (by decide) fun h1 => ok0 ?_ ⟨np, nt, no, ni, hR⟩ rfl
  · by_cases c : bad q (nI ni)
    · exact ⟨fun _ => Or.inl c, fun _ => Or.inl c⟩
    · rw [key c]
  · have hq := (nb_lt (by omega) fun z => h1 (Or.inl z)).1
    obtain ⟨j, hj, ej⟩ := hR.1.2.2.2.2.2.1 (cl q)
    have hk := (nb_lt (N := j) (by omega) fun z => h1 (Or.inr (Or.inl (by rw [ej]; exact z)))).1
    have ht := (nb_lt (by omega) fun z => h1 (Or.inr (Or.inr z))).1
    exact (hR.2.2.2.2.2.2.2.2.2.2.1 _ _ _ (by omega) (by omega) (by omega)).symm
theorem op_where {σ τ : gS} {np nt no ni : Nat} (hR : RR σ τ np nt no ni) (t v : Int32) : opOK (th_where nt t v) (tm_where nt t v) cdI (r_where σ (cl t) (cl v)) (rm_where τ no (cl t) (cl v)) (σ) (sS τ 0 0) := by
  refine opIf Iff.rfl (by decide) fun h1 => opIf Iff.rfl (by decide) fun h2 => ok0 ?_ ⟨np, nt, no, ni, hR⟩ rfl
  have hp := hR.pt
  have ht := (nb_lt (by omega) h1).1
  generalize cl t = a at ht ⊢
  rw [r_where, rm_where]
  repeat' split
  · exact (hR.2.2.2.2.2.2.1 _ (by omega)).symm
  · rw [tubS]
    refine (isum_to (n := no) (m := 10) (by omega) fun i h3 h4 => ?_).trans (isum_cg no fun i hi => ?_)
    · rw [Nat.zero_add]; exact hR.2.2.1.2.2.1 i a h4 (by omega) (Or.inr h3)
    · rw [Nat.zero_add]; exact (hR.2.2.2.2.2.2.2.2.1 _ _ (by omega) (by omega)).symm
  · rw [tubS]
    refine isum_cg 96 fun i hi => ?_
    have h3 := hR.2.2.2.2.2.2.2.2.2.2.1 (i / 12) (i % 12) a (by omega) (by omega) (by omega)
    rw [show 12 * (12 * (i / 12) + i % 12) + a = 12 * i + a by omega, show (10 + i / 12 * 12 + i % 12) * 12 + a = (10 + i) * 12 + a by omega] at h3
    exact h3.symm
  · rw [tubS, isum, isum, Int32.zero_add, Nat.add_zero]; exact (hR.2.2.2.2.2.2.2.1 _ (by omega)).symm
theorem op_paid {σ τ : gS} {np nt no ni : Nat} (hR : RR σ τ np nt no ni) (x : Int32) : opOK (th_paid x) (tm_paid x) cdI (σ.2 11 (cl x)) (τ.2 13 (cl x)) (σ) (sS τ 0 0) := by
  refine opIf Iff.rfl (by decide) fun h1 => ok0 ?_ ⟨np, nt, no, ni, hR⟩ rfl
  have hx := (nb_lt (N := 4) (by omega) h1).1
  exact (hR.2.2.2.2.2.2.2.2.2.2.2.2.2.2.2.2.2 _ (by omega)).symm
