/-! The model's small methods, over a row of 351 numbers that holds a bus -/
theorem nw_of {f : Nat → Int32} {w : Nat} (h : f 4 = nI w) (h4 : w ≤ 4) : nwF f = w := by
  unfold nwF
  rw [h, nI_clamp (by omega)]
