theorem rel_start : RE (sA σz 10 (fillF (fun _ => 0) (fun _ => 50) 4)) (sA (sA σz 12 (fillF (fun _ => 0) (fun _ => 50) 4)) 9 (fillF (fun _ => 0) (fun _ => (-1)) 8)) := sorry
