/-! The calls, open: what is owed of each. -/
theorem op_pass {σ τ : gS} {np nt no ni : Nat} (hR : RR σ τ np nt no ni) (d : Int32) : opOK (th_pass σ d) (tm_pass τ d) cdA (σ.1 4 + d) ((pN (sS τ 0 0) ni (cl d)).1 5) (sS (pfls σ d ni) 4 (σ.1 4 + d)) (pN (sS τ 0 0) ni (cl d)) := sorry
