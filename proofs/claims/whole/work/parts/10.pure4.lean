theorem bI_of01 {x : Int32} (h : x = 0 ∨ x = 1) : bI (¬ x = 0) = x := by
  rcases h with h | h
  · rw [h]; exact bI_f (fun q => q rfl)
  · rw [h]; exact bI_t (by decide)
