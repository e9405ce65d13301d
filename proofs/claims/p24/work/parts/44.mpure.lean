/-! What the law writes as it mixes. -/
theorem i32_nlt {x y : Int32} (h : x ≤ y) : ¬ y < x := by rw [i32_lt]; rw [i32_le] at h; omega
theorem nI_n3 {n : Nat} (h : n < 3) : ¬ nI n = 3 := by
  rw [i32_eq, nI_toInt (by omega), show (3 : Int32).toInt = 3 from rfl]; omega
/-- grams go to the waste, tube by tube -/
def wasT (W G : Nat → Int32) : Nat → Nat → Int32
  | 0 => W
  | n + 1 => upd (wasT W G n) (3 * n + 2) (wasT W G n (3 * n + 2) + G n)
theorem zerB_at (P : Nat → Int32) (b : Nat) : ∀ n m, n ≤ m → zerB P b n (b + m) = P (b + m)
  | 0, _, _ => rfl
  | n + 1, m, h => by rw [zerB, upd, if_neg (by omega)]; exact zerB_at P b n m (by omega)
/-- layers come off, from the uppermost on -/
def cl24 (τ : gS) (q ly : Nat) : Nat → gS
  | 0 => τ
  | k + 1 => sA (sA (sA (sA (cl24 τ q ly k) 5 (upd ((cl24 τ q ly k).2 5) (7 * q) (nI (ly - k - 1)))) 1 (wasT ((cl24 τ q ly k).2 1) (fun n => grL (cl24 τ q ly k) (3 * q + (ly - k - 1)) n) 6)) 3 (upd ((cl24 τ q ly k).2 3) (3 * q + (ly - k - 1)) 0)) 4 (upd ((cl24 τ q ly k).2 4) (3 * q + (ly - k - 1)) 0)
def clU (τ : gS) (q ly : Nat) : Nat → Int32
  | 0 => 0
  | k + 1 => clU τ q ly k + isum (fun n => grL (cl24 τ q ly k) (3 * q + (ly - k - 1)) n) 6
theorem cl24_lay {τ : gS} {q ly : Nat} (h : τ.2 5 (7 * q) = nI ly) : ∀ k, (cl24 τ q ly k).2 5 (7 * q) = nI (ly - k)
  | 0 => h
  | k + 1 => by
    rw [cl24]
    show upd _ (7 * q) (nI (ly - k - 1)) (7 * q) = _
    rw [upd, if_pos rfl]; rfl
theorem nI_n1 {n : Nat} (h : n + 1 < 2 ^ 31) : ¬ nI (1 + n) ≤ 0 := by rw [Nat.add_comm]; exact nI_np h
