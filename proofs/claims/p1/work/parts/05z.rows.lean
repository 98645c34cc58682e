theorem kz_ix4 {P : Int32 → Prop} (h0 : P 0) (h1 : P 1) (h2 : P 2) (h3 : P 3) {x : Int32} (l : (0 : Int) ≤ x.toInt) (u : x.toInt ≤ (3 : Int)) : P x := by
  have h : x.toInt = 0 ∨ x.toInt = 1 ∨ x.toInt = 2 ∨ x.toInt = 3 := by omega
  rcases h with h | h | h | h
  · rw [show x = 0 from Int32.toInt_inj.mp (h.trans (by decide))]; exact h0
  · rw [show x = 1 from Int32.toInt_inj.mp (h.trans (by decide))]; exact h1
  · rw [show x = 2 from Int32.toInt_inj.mp (h.trans (by decide))]; exact h2
  · rw [show x = 3 from Int32.toInt_inj.mp (h.trans (by decide))]; exact h3
theorem kz_fit4 {x : Int32} (l : (0 : Int) ≤ x.toInt) (u : x.toInt ≤ (3 : Int)) : fits .byte (.int x) = true := kz_ix4 (P := fun z => fits .byte (.int z) = true) (by decide) (by decide) (by decide) (by decide) l u
theorem kz_i2b {x : Int32} (l : (0 : Int) ≤ x.toInt) (u : x.toInt ≤ (3 : Int)) : x.toInt8.toInt32 = x := kz_ix4 (P := fun z => z.toInt8.toInt32 = z) (by decide) (by decide) (by decide) (by decide) l u
theorem kz_in4 {x : Int32} (l : (0 : Int) ≤ x.toInt) (u : x.toInt ≤ (3 : Int)) : vp_in x 4 := kz_ix4 (P := fun z => vp_in z 4) (by unfold vp_in; decide) (by unfold vp_in; decide) (by unfold vp_in; decide) (by unfold vp_in; decide) l u
theorem kz_nar {x : Int32} (l : (0 : Int) ≤ x.toInt) (u : x.toInt ≤ (3 : Int)) : vp_nar .byte x = x := kz_ix4 (P := fun z => vp_nar .byte z = z) (by decide) (by decide) (by decide) (by decide) l u
def kz_ty (rp : Int32) : Nat → Nat → List Int32 → Int32 × Int32
  | n, w, [] => if rp.toInt < 0 ∨ 3 < rp.toInt then (0, 1) else if w = 1 then (0, 2) else (Int32.ofNat n, 0)
  | n, w, x :: r => if x.toInt < -1 ∨ 3 < x.toInt then kz_ty rp n 1 r else if x.toInt < 0 then kz_ty rp n w r else kz_ty rp (n + 1) w r
theorem kz_ty_b {rp x : Int32} {n w : Nat} {r : List Int32} (h : x.toInt < -1 ∨ 3 < x.toInt) : kz_ty rp n w (x :: r) = kz_ty rp n 1 r := by
  rw [kz_ty, if_pos h]
theorem kz_ty_n {rp : Int32} {n w : Nat} {r : List Int32} : kz_ty rp n w ((-1) :: r) = kz_ty rp n w r := by
  rw [kz_ty, if_neg (by decide), if_pos (by decide)]
theorem kz_ty_g {rp x : Int32} {n w : Nat} {r : List Int32} (l : (0 : Int) ≤ x.toInt) (u : x.toInt ≤ (3 : Int)) : kz_ty rp n w (x :: r) = kz_ty rp (n + 1) w r := by
  rw [kz_ty, if_neg (by omega), if_neg (by omega)]
theorem kz_ty_e {rp : Int32} {n : Nat} (l : (0 : Int) ≤ rp.toInt) (u : rp.toInt ≤ (3 : Int)) : kz_ty rp n 0 [] = (Int32.ofNat n, 0) := by
  rw [kz_ty, if_neg (by omega), if_neg (by omega)]
theorem kz_ty_e1 {rp : Int32} {n : Nat} (l : (0 : Int) ≤ rp.toInt) (u : rp.toInt ≤ (3 : Int)) : kz_ty rp n 1 [] = (0, 2) := by
  rw [kz_ty, if_neg (by omega), if_pos rfl]
theorem kz_ty_R0 {rp : Int32} (h : rp.toInt < 0 ∨ 3 < rp.toInt) (L : List Int32) : ∀ n w : Nat, kz_ty rp n w L = (0, 1) := by
  induction L with
  | nil => intro n w; rw [kz_ty, if_pos h]
  | cons x r ih =>
    intro n w
    rw [kz_ty]
    split
    · exact ih _ _
    · split
      · exact ih _ _
      · exact ih _ _
theorem kz_ty_w1 {rp : Int32} (l : (0 : Int) ≤ rp.toInt) (u : rp.toInt ≤ (3 : Int)) (L : List Int32) : ∀ n : Nat, kz_ty rp n 1 L = (0, 2) := by
  induction L with
  | nil => intro n; exact kz_ty_e1 l u
  | cons x r ih =>
    intro n
    rw [kz_ty]
    split
    · exact ih _
    · split
      · exact ih _
      · exact ih _
theorem kz_ty_R2 {rp : Int32} (l : (0 : Int) ≤ rp.toInt) (u : rp.toInt ≤ (3 : Int)) (L : List Int32) : ∀ n w : Nat, (∃ x ∈ L, x.toInt < -1 ∨ 3 < x.toInt) → kz_ty rp n w L = (0, 2) := by
  induction L with
  | nil => intro n w h; obtain ⟨x, hx, -⟩ := h; cases hx
  | cons x r ih =>
    intro n w h
    by_cases hb : x.toInt < -1 ∨ 3 < x.toInt
    · rw [kz_ty_b hb]; exact kz_ty_w1 l u r n
    · have h' : ∃ y ∈ r, y.toInt < -1 ∨ 3 < y.toInt := by
        obtain ⟨y, hy, hb2⟩ := h
        rcases List.mem_cons.mp hy with rfl | hy
        · exact absurd hb2 hb
        · exact ⟨y, hy, hb2⟩
      rw [kz_ty, if_neg hb]
      split
      · exact ih _ _ h'
      · exact ih _ _ h'
def kz_ct : Nat → List Int32 → Int32
  | n, [] => Int32.ofNat n
  | n, x :: r => if x.toInt < 0 then kz_ct n r else kz_ct (n + 1) r
theorem kz_ct_n {n : Nat} {r : List Int32} : kz_ct n ((-1) :: r) = kz_ct n r := by
  rw [kz_ct, if_pos (by decide)]
theorem kz_ct_g {x : Int32} {n : Nat} {r : List Int32} (l : (0 : Int) ≤ x.toInt) : kz_ct n (x :: r) = kz_ct (n + 1) r := by
  rw [kz_ct, if_neg (by omega)]
theorem kz_ct_e {n : Nat} : kz_ct n [] = Int32.ofNat n := by rw [kz_ct]
theorem kz_cls (x : Int32) : x.toInt ≤ -2 ∨ x = -1 ∨ x = 0 ∨ x = 1 ∨ x = 2 ∨ x = 3 ∨ 4 ≤ x.toInt := by
  have e : ∀ y : Int32, x.toInt = y.toInt → x = y := fun y h => Int32.toInt_inj.mp h
  rcases Int.lt_or_le x.toInt (-1) with h | h
  · exact Or.inl (by omega)
  · rcases Int.lt_or_le x.toInt 4 with h4 | h4
    · have h9 : x.toInt = -1 ∨ x.toInt = 0 ∨ x.toInt = 1 ∨ x.toInt = 2 ∨ x.toInt = 3 := by omega
      rcases h9 with h9 | h9 | h9 | h9 | h9
      · exact Or.inr (Or.inl (e (-1) (h9.trans (by decide))))
      · exact Or.inr (Or.inr (Or.inl (e 0 (h9.trans (by decide)))))
      · exact Or.inr (Or.inr (Or.inr (Or.inl (e 1 (h9.trans (by decide))))))
      · exact Or.inr (Or.inr (Or.inr (Or.inr (Or.inl (e 2 (h9.trans (by decide)))))))
      · exact Or.inr (Or.inr (Or.inr (Or.inr (Or.inr (Or.inl (e 3 (h9.trans (by decide))))))))
    · exact Or.inr (Or.inr (Or.inr (Or.inr (Or.inr (Or.inr h4)))))
theorem kz_r4 {x : Int32} (l : (0 : Int) ≤ x.toInt) (u : x.toInt ≤ (3 : Int)) : x = 0 ∨ x = 1 ∨ x = 2 ∨ x = 3 := by
  rcases kz_cls x with h | h | h | h | h | h | h
  · omega
  · rw [h] at l; exact absurd l (by decide)
  · exact Or.inl h
  · exact Or.inr (Or.inl h)
  · exact Or.inr (Or.inr (Or.inl h))
  · exact Or.inr (Or.inr (Or.inr h))
  · omega
theorem kz_dup2_x1 {p : Program} {l : Launch} {e : Env} {R : Room} {s : State} {m : MethodId} {args : Array Value} {below : List Frame} {meth : Method} {c : Code} {H : Heap} {locs : List Loc} {cells slots : Nat} {Q : State → Prop} {cc : ByteArray} {pc : Nat} {ls : Array Slot} {rest : List Value} (hexec : p.tables.exec = Jvm.exec) (hb : c.code = cc) {va vb vd : Value} (hdg : decode cc pc = .ok (.dup2_x1, 1)) (hva : va.category = 1) (hvb : vb.category = 1) (hvd : vd.category = 1)
    (k : W p l e R s m args below meth c H locs cells slots Q (F0 m (pc + 1) ls (va :: vb :: vd :: va :: vb :: rest))) : W p l e R s m args below meth c H locs cells slots Q (F0 m pc ls (va :: vb :: vd :: rest)) := by
  intro T hT X
  obtain ⟨t, a, b⟩ := k T hT X
  refine ⟨t, ?_, b⟩
  jvm_step X.here [X.here.top, hexec, hb, hdg, hva, hvb, hvd]
  exact a
