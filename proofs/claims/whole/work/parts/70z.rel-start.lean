theorem fillF_or (F fl : Nat → Int32) (i : Nat) : ∀ n, fillF F fl n i = F i ∨ fillF F fl n i = fl i
  | 0 => Or.inl rfl
  | n + 1 => by
    by_cases e : i = n
    · right; rw [fillF, upd, if_pos e, e]
    · rw [fillF, upd, if_neg e]; exact fillF_or F fl i n
theorem rel_start : RE (sA σz 10 (fillF (fun _ => 0) (fun _ => 50) 4)) (sA (sA σz 12 (fillF (fun _ => 0) (fun _ => 50) 4)) 9 (fillF (fun _ => 0) (fun _ => (-1)) 8)) := by
  refine ⟨0, 0, 0, 0, ⟨⟨rfl, by omega⟩, ⟨rfl, by omega⟩, ⟨rfl, by omega⟩, ⟨rfl, by omega⟩, fun t => ⟨0, by omega, rfl⟩, fun t => ⟨0, by omega, rfl⟩, fun t => ⟨0, by omega, rfl⟩⟩,
    ⟨⟨rfl, by omega⟩, ⟨rfl, by omega⟩, ⟨rfl, by omega⟩, ⟨rfl, by omega⟩, fun t => ⟨0, by omega, rfl⟩, fun t => ⟨0, by omega, rfl⟩, fun q => ?_⟩,
    ⟨fun t ht => ⟨(by decide : (0 : Int) ≤ (0 : Int32).toInt), ?_⟩, fun p t hp ht => (by decide : (0 : Int) ≤ (0 : Int32).toInt), fun p t hp ht h => rfl, fun q k t hq hk ht => (by decide : (0 : Int) ≤ (0 : Int32).toInt ∧ (0 : Int32).toInt ≤ 1000), fun q k t hq hk ht h => rfl, fun q k hq hk => absurd hk (Nat.not_lt_zero k), fun h hh => ?_, fun q hq => (by decide : (0 : Int) ≤ (0 : Int32).toInt ∧ (0 : Int32).toInt ≤ 100), fun t ht => absurd ht (Nat.not_lt_zero t)⟩,
    ⟨rfl, fun j hj => rfl, fun j hj => rfl, fun j hj => rfl, fun j hj => rfl, fun p t hp ht => rfl, fun j hj => rfl, fun q k t hq hk ht => rfl, fun j hj => rfl, fun j hj => rfl, fun q hq => ?_, fun j hj => rfl, fun j hj => rfl, fun j hj => rfl, fun j hj => rfl⟩⟩
  · exact (fillF_or (fun _ => 0) (fun _ => (-1)) q 8).elim (fun h => Or.inr ⟨0, by omega, h⟩) Or.inl
  · show (0 : Int32).toInt + zsum (fun p => (0 : Int32).toInt) 10 ≤ 1000
    decide
  · have h1 : fillF (fun _ => 0) (fun _ => 50) 4 h = 50 := fillF_at _ _ 4 h hh
    show 0 ≤ (fillF (fun _ => 0) (fun _ => 50) 4 h).toInt ∧ (fillF (fun _ => 0) (fun _ => 50) 4 h).toInt ≤ 100
    rw [h1]; decide
  · exact fillF_at (fun _ => 0) (fun _ => (-1)) 8 q hq
