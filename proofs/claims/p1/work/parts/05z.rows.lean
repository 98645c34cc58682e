theorem kz_ix4 {P : Int32 → Prop} (h0 : P 0) (h1 : P 1) (h2 : P 2) (h3 : P 3) {x : Int32} (l : (0 : Int) ≤ x.toInt) (u : x.toInt ≤ (3 : Int)) : P x := by
  have h : x.toInt = 0 ∨ x.toInt = 1 ∨ x.toInt = 2 ∨ x.toInt = 3 := by omega
  rcases h with h | h | h | h
  · rw [show x = 0 from Int32.toInt_inj.mp (h.trans (by decide))]; exact h0
  · rw [show x = 1 from Int32.toInt_inj.mp (h.trans (by decide))]; exact h1
  · rw [show x = 2 from Int32.toInt_inj.mp (h.trans (by decide))]; exact h2
  · rw [show x = 3 from Int32.toInt_inj.mp (h.trans (by decide))]; exact h3
theorem kz_fit4 {x : Int32} (l : (0 : Int) ≤ x.toInt) (u : x.toInt ≤ (3 : Int)) : fits .byte (.int x) = true := kz_ix4 (P := fun z => fits .byte (.int z) = true) (by decide) (by decide) (by decide) (by decide) l u
theorem kz_i2b {x : Int32} (l : (0 : Int) ≤ x.toInt) (u : x.toInt ≤ (3 : Int)) : x.toInt8.toInt32 = x := kz_ix4 (P := fun z => z.toInt8.toInt32 = z) (by decide) (by decide) (by decide) (by decide) l u
theorem kz_in4 {x : Int32} (l : (0 : Int) ≤ x.toInt) (u : x.toInt ≤ (3 : Int)) : vp_in x 4 := kz_ix4 (P := fun z => vp_in z 4) (by unfold vp_in; decide) (by unfold vp_in; decide) (by unfold vp_in; decide) (by unfold vp_in; decide) l u
